section
-- ===== PART A: goes FIRST, ahead of the names: the tables' words, and 'selects' of the private methods out of them =====
/-- a private method of a class that the tables say can be made, by its rows of tables_1 -/
def lw_okq (q : MethodName × Nat) : Prop := (q.1.cls ≠ "java/lang/invoke/MethodHandle" ∧ q.1.cls ≠ "java/lang/invoke/VarHandle") ∧ Cond.instantiable q.1.cls q.2 ∈ tables_1 ∧ Cond.privateMethod q.1 ∈ tables_1 ∧ Cond.instanceMethod q.1 ∈ tables_1
theorem lw_p0 : lw_okq (⟨"BurntWays$Net", "untell", "(I)V"⟩, 9) := ⟨⟨by decide +kernel, by decide +kernel⟩, List.mem_of_getElem? (i := 38) (by decide +kernel), List.mem_of_getElem? (i := 48) (by decide +kernel), List.mem_of_getElem? (i := 49) (by decide +kernel)⟩
theorem lw_p1 : lw_okq (⟨"BurntWays", "refuse", "(I)I"⟩, 14) := ⟨⟨by decide +kernel, by decide +kernel⟩, List.mem_of_getElem? (i := 24) (by decide +kernel), List.mem_of_getElem? (i := 458) (by decide +kernel), List.mem_of_getElem? (i := 459) (by decide +kernel)⟩
theorem lw_p2 : lw_okq (⟨"BurntWays$Reader", "advance", "()V"⟩, 14) := ⟨⟨by decide +kernel, by decide +kernel⟩, List.mem_of_getElem? (i := 32) (by decide +kernel), List.mem_of_getElem? (i := 467) (by decide +kernel), List.mem_of_getElem? (i := 468) (by decide +kernel)⟩
theorem lw_p3 : lw_okq (⟨"BurntWays$Reader", "lookAtWord", "()V"⟩, 14) := ⟨⟨by decide +kernel, by decide +kernel⟩, List.mem_of_getElem? (i := 32) (by decide +kernel), List.mem_of_getElem? (i := 471) (by decide +kernel), List.mem_of_getElem? (i := 472) (by decide +kernel)⟩
theorem lw_p4 : lw_okq (⟨"BurntWays$Reader", "lookAtWhole", "()V"⟩, 14) := ⟨⟨by decide +kernel, by decide +kernel⟩, List.mem_of_getElem? (i := 32) (by decide +kernel), List.mem_of_getElem? (i := 475) (by decide +kernel), List.mem_of_getElem? (i := 476) (by decide +kernel)⟩
theorem lw_p5 : lw_okq (⟨"BurntWays$Reader", "readNames", "()Z"⟩, 14) := ⟨⟨by decide +kernel, by decide +kernel⟩, List.mem_of_getElem? (i := 32) (by decide +kernel), List.mem_of_getElem? (i := 479) (by decide +kernel), List.mem_of_getElem? (i := 480) (by decide +kernel)⟩
theorem lw_p6 : lw_okq (⟨"BurntWays$Reader", "fail", "(I)Z"⟩, 14) := ⟨⟨by decide +kernel, by decide +kernel⟩, List.mem_of_getElem? (i := 32) (by decide +kernel), List.mem_of_getElem? (i := 483) (by decide +kernel), List.mem_of_getElem? (i := 484) (by decide +kernel)⟩
theorem lw_p7 : lw_okq (⟨"BurntWays$Reader", "findName", "()I"⟩, 14) := ⟨⟨by decide +kernel, by decide +kernel⟩, List.mem_of_getElem? (i := 32) (by decide +kernel), List.mem_of_getElem? (i := 487) (by decide +kernel), List.mem_of_getElem? (i := 488) (by decide +kernel)⟩
theorem lw_p8 : lw_okq (⟨"BurntWays$Reader", "readLine", "()Z"⟩, 14) := ⟨⟨by decide +kernel, by decide +kernel⟩, List.mem_of_getElem? (i := 32) (by decide +kernel), List.mem_of_getElem? (i := 491) (by decide +kernel), List.mem_of_getElem? (i := 492) (by decide +kernel)⟩
theorem lw_p9 : lw_okq (⟨"BurntWays$Reader", "isKnownName", "()Z"⟩, 14) := ⟨⟨by decide +kernel, by decide +kernel⟩, List.mem_of_getElem? (i := 32) (by decide +kernel), List.mem_of_getElem? (i := 495) (by decide +kernel), List.mem_of_getElem? (i := 496) (by decide +kernel)⟩
theorem lw_p10 : lw_okq (⟨"BurntWays$Reader", "readActs", "(I)Z"⟩, 14) := ⟨⟨by decide +kernel, by decide +kernel⟩, List.mem_of_getElem? (i := 32) (by decide +kernel), List.mem_of_getElem? (i := 503) (by decide +kernel), List.mem_of_getElem? (i := 504) (by decide +kernel)⟩
theorem lw_p11 : lw_okq (⟨"BurntWays$Reader", "readAct", "(I)Z"⟩, 14) := ⟨⟨by decide +kernel, by decide +kernel⟩, List.mem_of_getElem? (i := 32) (by decide +kernel), List.mem_of_getElem? (i := 507) (by decide +kernel), List.mem_of_getElem? (i := 508) (by decide +kernel)⟩
theorem lw_p12 : lw_okq (⟨"BurntWays$Reader", "isCounter", "()Z"⟩, 14) := ⟨⟨by decide +kernel, by decide +kernel⟩, List.mem_of_getElem? (i := 32) (by decide +kernel), List.mem_of_getElem? (i := 511) (by decide +kernel), List.mem_of_getElem? (i := 512) (by decide +kernel)⟩
theorem lw_p13 : lw_okq (⟨"BurntWays$Reader", "isWhole", "(II)Z"⟩, 14) := ⟨⟨by decide +kernel, by decide +kernel⟩, List.mem_of_getElem? (i := 32) (by decide +kernel), List.mem_of_getElem? (i := 515) (by decide +kernel), List.mem_of_getElem? (i := 516) (by decide +kernel)⟩
theorem lw_p14 : lw_okq (⟨"BurntWays$Reader", "isWord", "(I)Z"⟩, 14) := ⟨⟨by decide +kernel, by decide +kernel⟩, List.mem_of_getElem? (i := 32) (by decide +kernel), List.mem_of_getElem? (i := 519) (by decide +kernel), List.mem_of_getElem? (i := 520) (by decide +kernel)⟩
theorem lw_p15 : lw_okq (⟨"BurntWays$Reader", "readGoal", "(I)Z"⟩, 14) := ⟨⟨by decide +kernel, by decide +kernel⟩, List.mem_of_getElem? (i := 32) (by decide +kernel), List.mem_of_getElem? (i := 523) (by decide +kernel), List.mem_of_getElem? (i := 524) (by decide +kernel)⟩
def lw_privs_1 : List (MethodName × Nat) := [(⟨"BurntWays$Net", "untell", "(I)V"⟩, 9), (⟨"BurntWays", "refuse", "(I)I"⟩, 14), (⟨"BurntWays$Reader", "advance", "()V"⟩, 14), (⟨"BurntWays$Reader", "lookAtWord", "()V"⟩, 14), (⟨"BurntWays$Reader", "lookAtWhole", "()V"⟩, 14), (⟨"BurntWays$Reader", "readNames", "()Z"⟩, 14), (⟨"BurntWays$Reader", "fail", "(I)Z"⟩, 14), (⟨"BurntWays$Reader", "findName", "()I"⟩, 14), (⟨"BurntWays$Reader", "readLine", "()Z"⟩, 14), (⟨"BurntWays$Reader", "isKnownName", "()Z"⟩, 14), (⟨"BurntWays$Reader", "readActs", "(I)Z"⟩, 14), (⟨"BurntWays$Reader", "readAct", "(I)Z"⟩, 14), (⟨"BurntWays$Reader", "isCounter", "()Z"⟩, 14), (⟨"BurntWays$Reader", "isWhole", "(II)Z"⟩, 14), (⟨"BurntWays$Reader", "isWord", "(I)Z"⟩, 14), (⟨"BurntWays$Reader", "readGoal", "(I)Z"⟩, 14)]
theorem lw_r1 : ∀ q ∈ lw_privs_1, lw_okq q := List.forall_mem_cons.mpr ⟨lw_p0, List.forall_mem_cons.mpr ⟨lw_p1, List.forall_mem_cons.mpr ⟨lw_p2, List.forall_mem_cons.mpr ⟨lw_p3, List.forall_mem_cons.mpr ⟨lw_p4, List.forall_mem_cons.mpr ⟨lw_p5, List.forall_mem_cons.mpr ⟨lw_p6, List.forall_mem_cons.mpr ⟨lw_p7, List.forall_mem_cons.mpr ⟨lw_p8, List.forall_mem_cons.mpr ⟨lw_p9, List.forall_mem_cons.mpr ⟨lw_p10, List.forall_mem_cons.mpr ⟨lw_p11, List.forall_mem_cons.mpr ⟨lw_p12, List.forall_mem_cons.mpr ⟨lw_p13, List.forall_mem_cons.mpr ⟨lw_p14, List.forall_mem_cons.mpr ⟨lw_p15, fun _ h => absurd h List.not_mem_nil⟩⟩⟩⟩⟩⟩⟩⟩⟩⟩⟩⟩⟩⟩⟩⟩
theorem lw_p16 : lw_okq (⟨"BurntWays$Reader", "readWay", "(I)Z"⟩, 14) := ⟨⟨by decide +kernel, by decide +kernel⟩, List.mem_of_getElem? (i := 32) (by decide +kernel), List.mem_of_getElem? (i := 527) (by decide +kernel), List.mem_of_getElem? (i := 528) (by decide +kernel)⟩
theorem lw_p17 : lw_okq (⟨"BurntWays$Reader", "readAsked", "(I)Z"⟩, 14) := ⟨⟨by decide +kernel, by decide +kernel⟩, List.mem_of_getElem? (i := 32) (by decide +kernel), List.mem_of_getElem? (i := 531) (by decide +kernel), List.mem_of_getElem? (i := 532) (by decide +kernel)⟩
theorem lw_p18 : lw_okq (⟨"BurntWays$Reader", "readWant", "()Z"⟩, 14) := ⟨⟨by decide +kernel, by decide +kernel⟩, List.mem_of_getElem? (i := 32) (by decide +kernel), List.mem_of_getElem? (i := 535) (by decide +kernel), List.mem_of_getElem? (i := 536) (by decide +kernel)⟩
theorem lw_p19 : lw_okq (⟨"BurntWays", "forgetWhatWasFound", "()V"⟩, 14) := ⟨⟨by decide +kernel, by decide +kernel⟩, List.mem_of_getElem? (i := 24) (by decide +kernel), List.mem_of_getElem? (i := 562) (by decide +kernel), List.mem_of_getElem? (i := 563) (by decide +kernel)⟩
theorem lw_p20 : lw_okq (⟨"BurntWays", "grant", "(I)I"⟩, 14) := ⟨⟨by decide +kernel, by decide +kernel⟩, List.mem_of_getElem? (i := 24) (by decide +kernel), List.mem_of_getElem? (i := 571) (by decide +kernel), List.mem_of_getElem? (i := 572) (by decide +kernel)⟩
theorem lw_p21 : lw_okq (⟨"BurntWays", "mayStart", "(IIII)Z"⟩, 14) := ⟨⟨by decide +kernel, by decide +kernel⟩, List.mem_of_getElem? (i := 24) (by decide +kernel), List.mem_of_getElem? (i := 587) (by decide +kernel), List.mem_of_getElem? (i := 588) (by decide +kernel)⟩
theorem lw_p22 : lw_okq (⟨"BurntWays", "isLoaded", "()Z"⟩, 14) := ⟨⟨by decide +kernel, by decide +kernel⟩, List.mem_of_getElem? (i := 24) (by decide +kernel), List.mem_of_getElem? (i := 591) (by decide +kernel), List.mem_of_getElem? (i := 592) (by decide +kernel)⟩
theorem lw_p23 : lw_okq (⟨"BurntWays$Walk", "step", "(LBurntWays$Net;)V"⟩, 10) := ⟨⟨by decide +kernel, by decide +kernel⟩, List.mem_of_getElem? (i := 222) (by decide +kernel), List.mem_of_getElem? (i := 606) (by decide +kernel), List.mem_of_getElem? (i := 607) (by decide +kernel)⟩
theorem lw_p24 : lw_okq (⟨"BurntWays$Walk", "act", "(LBurntWays$Net;I)V"⟩, 10) := ⟨⟨by decide +kernel, by decide +kernel⟩, List.mem_of_getElem? (i := 222) (by decide +kernel), List.mem_of_getElem? (i := 610) (by decide +kernel), List.mem_of_getElem? (i := 611) (by decide +kernel)⟩
theorem lw_p25 : lw_okq (⟨"BurntWays$Walk", "take", "(LBurntWays$Net;I)V"⟩, 10) := ⟨⟨by decide +kernel, by decide +kernel⟩, List.mem_of_getElem? (i := 222) (by decide +kernel), List.mem_of_getElem? (i := 614) (by decide +kernel), List.mem_of_getElem? (i := 615) (by decide +kernel)⟩
theorem lw_p26 : lw_okq (⟨"BurntWays", "surveyed", "(I)Z"⟩, 14) := ⟨⟨by decide +kernel, by decide +kernel⟩, List.mem_of_getElem? (i := 24) (by decide +kernel), List.mem_of_getElem? (i := 697) (by decide +kernel), List.mem_of_getElem? (i := 698) (by decide +kernel)⟩
theorem lw_p27 : lw_okq (⟨"BurntWays$Survey", "noteRun", "(LBurntWays$Net;I)V"⟩, 13) := ⟨⟨by decide +kernel, by decide +kernel⟩, List.mem_of_getElem? (i := 270) (by decide +kernel), List.mem_of_getElem? (i := 713) (by decide +kernel), List.mem_of_getElem? (i := 714) (by decide +kernel)⟩
theorem lw_p28 : lw_okq (⟨"BurntWays$Survey", "noteLines", "(I)V"⟩, 13) := ⟨⟨by decide +kernel, by decide +kernel⟩, List.mem_of_getElem? (i := 270) (by decide +kernel), List.mem_of_getElem? (i := 722) (by decide +kernel), List.mem_of_getElem? (i := 723) (by decide +kernel)⟩
theorem lw_p29 : lw_okq (⟨"BurntWays$Survey", "noteWays", "()V"⟩, 13) := ⟨⟨by decide +kernel, by decide +kernel⟩, List.mem_of_getElem? (i := 270) (by decide +kernel), List.mem_of_getElem? (i := 726) (by decide +kernel), List.mem_of_getElem? (i := 727) (by decide +kernel)⟩
theorem lw_p30 : lw_okq (⟨"BurntWays$Net", "isBalanced", "()Z"⟩, 9) := ⟨⟨by decide +kernel, by decide +kernel⟩, List.mem_of_getElem? (i := 38) (by decide +kernel), List.mem_of_getElem? (i := 775) (by decide +kernel), List.mem_of_getElem? (i := 776) (by decide +kernel)⟩
theorem lw_p31 : lw_okq (⟨"BurntWays$Trail", "goThrough", "(LBurntWays$Net;)V"⟩, 4) := ⟨⟨by decide +kernel, by decide +kernel⟩, List.mem_of_getElem? (i := 328) (by decide +kernel), List.mem_of_getElem? (i := 805) (by decide +kernel), List.mem_of_getElem? (i := 806) (by decide +kernel)⟩
def lw_privs_2 : List (MethodName × Nat) := [(⟨"BurntWays$Reader", "readWay", "(I)Z"⟩, 14), (⟨"BurntWays$Reader", "readAsked", "(I)Z"⟩, 14), (⟨"BurntWays$Reader", "readWant", "()Z"⟩, 14), (⟨"BurntWays", "forgetWhatWasFound", "()V"⟩, 14), (⟨"BurntWays", "grant", "(I)I"⟩, 14), (⟨"BurntWays", "mayStart", "(IIII)Z"⟩, 14), (⟨"BurntWays", "isLoaded", "()Z"⟩, 14), (⟨"BurntWays$Walk", "step", "(LBurntWays$Net;)V"⟩, 10), (⟨"BurntWays$Walk", "act", "(LBurntWays$Net;I)V"⟩, 10), (⟨"BurntWays$Walk", "take", "(LBurntWays$Net;I)V"⟩, 10), (⟨"BurntWays", "surveyed", "(I)Z"⟩, 14), (⟨"BurntWays$Survey", "noteRun", "(LBurntWays$Net;I)V"⟩, 13), (⟨"BurntWays$Survey", "noteLines", "(I)V"⟩, 13), (⟨"BurntWays$Survey", "noteWays", "()V"⟩, 13), (⟨"BurntWays$Net", "isBalanced", "()Z"⟩, 9), (⟨"BurntWays$Trail", "goThrough", "(LBurntWays$Net;)V"⟩, 4)]
theorem lw_r2 : ∀ q ∈ lw_privs_2, lw_okq q := List.forall_mem_cons.mpr ⟨lw_p16, List.forall_mem_cons.mpr ⟨lw_p17, List.forall_mem_cons.mpr ⟨lw_p18, List.forall_mem_cons.mpr ⟨lw_p19, List.forall_mem_cons.mpr ⟨lw_p20, List.forall_mem_cons.mpr ⟨lw_p21, List.forall_mem_cons.mpr ⟨lw_p22, List.forall_mem_cons.mpr ⟨lw_p23, List.forall_mem_cons.mpr ⟨lw_p24, List.forall_mem_cons.mpr ⟨lw_p25, List.forall_mem_cons.mpr ⟨lw_p26, List.forall_mem_cons.mpr ⟨lw_p27, List.forall_mem_cons.mpr ⟨lw_p28, List.forall_mem_cons.mpr ⟨lw_p29, List.forall_mem_cons.mpr ⟨lw_p30, List.forall_mem_cons.mpr ⟨lw_p31, fun _ h => absurd h List.not_mem_nil⟩⟩⟩⟩⟩⟩⟩⟩⟩⟩⟩⟩⟩⟩⟩⟩
theorem lw_p32 : lw_okq (⟨"BurntWays$Trail", "nextWay", "(LBurntWays$Net;I)I"⟩, 4) := ⟨⟨by decide +kernel, by decide +kernel⟩, List.mem_of_getElem? (i := 328) (by decide +kernel), List.mem_of_getElem? (i := 814) (by decide +kernel), List.mem_of_getElem? (i := 815) (by decide +kernel)⟩
theorem lw_p33 : lw_okq (⟨"BurntWays", "greatestSpare", "(I)I"⟩, 14) := ⟨⟨by decide +kernel, by decide +kernel⟩, List.mem_of_getElem? (i := 24) (by decide +kernel), List.mem_of_getElem? (i := 849) (by decide +kernel), List.mem_of_getElem? (i := 850) (by decide +kernel)⟩
theorem lw_p34 : lw_okq (⟨"BurntWays$Survey", "endsAlike", "(LBurntWays$Net;I)Z"⟩, 13) := ⟨⟨by decide +kernel, by decide +kernel⟩, List.mem_of_getElem? (i := 270) (by decide +kernel), List.mem_of_getElem? (i := 857) (by decide +kernel), List.mem_of_getElem? (i := 858) (by decide +kernel)⟩
theorem lw_p35 : lw_okq (⟨"BurntWays", "isPair", "(II)Z"⟩, 14) := ⟨⟨by decide +kernel, by decide +kernel⟩, List.mem_of_getElem? (i := 24) (by decide +kernel), List.mem_of_getElem? (i := 869) (by decide +kernel), List.mem_of_getElem? (i := 870) (by decide +kernel)⟩
theorem lw_p36 : lw_okq (⟨"BurntWays$Net", "haveSameActs", "(II)Z"⟩, 9) := ⟨⟨by decide +kernel, by decide +kernel⟩, List.mem_of_getElem? (i := 38) (by decide +kernel), List.mem_of_getElem? (i := 878) (by decide +kernel), List.mem_of_getElem? (i := 879) (by decide +kernel)⟩
theorem lw_p37 : lw_okq (⟨"BurntWays", "mergeFirstFair", "()Z"⟩, 14) := ⟨⟨by decide +kernel, by decide +kernel⟩, List.mem_of_getElem? (i := 24) (by decide +kernel), List.mem_of_getElem? (i := 898) (by decide +kernel), List.mem_of_getElem? (i := 899) (by decide +kernel)⟩
theorem lw_p38 : lw_okq (⟨"BurntWays$Least", "seek", "(LBurntWays$Wants;I)I"⟩, 7) := ⟨⟨by decide +kernel, by decide +kernel⟩, List.mem_of_getElem? (i := 350) (by decide +kernel), List.mem_of_getElem? (i := 921) (by decide +kernel), List.mem_of_getElem? (i := 922) (by decide +kernel)⟩
theorem lw_p39 : lw_okq (⟨"BurntWays$Least", "seekOf", "(ILBurntWays$Wants;I)Z"⟩, 7) := ⟨⟨by decide +kernel, by decide +kernel⟩, List.mem_of_getElem? (i := 350) (by decide +kernel), List.mem_of_getElem? (i := 925) (by decide +kernel), List.mem_of_getElem? (i := 926) (by decide +kernel)⟩
theorem lw_p40 : lw_okq (⟨"BurntWays$Least", "tell", "(II)V"⟩, 7) := ⟨⟨by decide +kernel, by decide +kernel⟩, List.mem_of_getElem? (i := 350) (by decide +kernel), List.mem_of_getElem? (i := 933) (by decide +kernel), List.mem_of_getElem? (i := 934) (by decide +kernel)⟩
theorem lw_p41 : lw_okq (⟨"BurntWays$Least", "mayAnswer", "(LBurntWays$Wants;II)Z"⟩, 7) := ⟨⟨by decide +kernel, by decide +kernel⟩, List.mem_of_getElem? (i := 350) (by decide +kernel), List.mem_of_getElem? (i := 937) (by decide +kernel), List.mem_of_getElem? (i := 938) (by decide +kernel)⟩
theorem lw_p42 : lw_okq (⟨"BurntWays$Least", "mayAnswerOne", "(LBurntWays$Wants;III)Z"⟩, 7) := ⟨⟨by decide +kernel, by decide +kernel⟩, List.mem_of_getElem? (i := 350) (by decide +kernel), List.mem_of_getElem? (i := 941) (by decide +kernel), List.mem_of_getElem? (i := 942) (by decide +kernel)⟩
theorem lw_p43 : lw_okq (⟨"java/lang/Throwable", "fillInStackTrace", "(I)Ljava/lang/Throwable;"⟩, 6) := ⟨⟨by decide +kernel, by decide +kernel⟩, List.mem_of_getElem? (i := 1036) (by decide +kernel), List.mem_of_getElem? (i := 1034) (by decide +kernel), List.mem_of_getElem? (i := 1035) (by decide +kernel)⟩
theorem lw_p44 : lw_okq (⟨"BurntWaysModel", "good", "()V"⟩, 40) := ⟨⟨by decide +kernel, by decide +kernel⟩, List.mem_of_getElem? (i := 1065) (by decide +kernel), List.mem_of_getElem? (i := 1204) (by decide +kernel), List.mem_of_getElem? (i := 1205) (by decide +kernel)⟩
theorem lw_p45 : lw_okq (⟨"BurntWaysModel", "no", "(I)I"⟩, 40) := ⟨⟨by decide +kernel, by decide +kernel⟩, List.mem_of_getElem? (i := 1065) (by decide +kernel), List.mem_of_getElem? (i := 1211) (by decide +kernel), List.mem_of_getElem? (i := 1212) (by decide +kernel)⟩
theorem lw_p46 : lw_okq (⟨"BurntWaysModel", "next", "()V"⟩, 40) := ⟨⟨by decide +kernel, by decide +kernel⟩, List.mem_of_getElem? (i := 1065) (by decide +kernel), List.mem_of_getElem? (i := 1215) (by decide +kernel), List.mem_of_getElem? (i := 1216) (by decide +kernel)⟩
theorem lw_p47 : lw_okq (⟨"BurntWaysModel", "look", "(I)I"⟩, 40) := ⟨⟨by decide +kernel, by decide +kernel⟩, List.mem_of_getElem? (i := 1065) (by decide +kernel), List.mem_of_getElem? (i := 1219) (by decide +kernel), List.mem_of_getElem? (i := 1220) (by decide +kernel)⟩
def lw_privs_3 : List (MethodName × Nat) := [(⟨"BurntWays$Trail", "nextWay", "(LBurntWays$Net;I)I"⟩, 4), (⟨"BurntWays", "greatestSpare", "(I)I"⟩, 14), (⟨"BurntWays$Survey", "endsAlike", "(LBurntWays$Net;I)Z"⟩, 13), (⟨"BurntWays", "isPair", "(II)Z"⟩, 14), (⟨"BurntWays$Net", "haveSameActs", "(II)Z"⟩, 9), (⟨"BurntWays", "mergeFirstFair", "()Z"⟩, 14), (⟨"BurntWays$Least", "seek", "(LBurntWays$Wants;I)I"⟩, 7), (⟨"BurntWays$Least", "seekOf", "(ILBurntWays$Wants;I)Z"⟩, 7), (⟨"BurntWays$Least", "tell", "(II)V"⟩, 7), (⟨"BurntWays$Least", "mayAnswer", "(LBurntWays$Wants;II)Z"⟩, 7), (⟨"BurntWays$Least", "mayAnswerOne", "(LBurntWays$Wants;III)Z"⟩, 7), (⟨"java/lang/Throwable", "fillInStackTrace", "(I)Ljava/lang/Throwable;"⟩, 6), (⟨"BurntWaysModel", "good", "()V"⟩, 40), (⟨"BurntWaysModel", "no", "(I)I"⟩, 40), (⟨"BurntWaysModel", "next", "()V"⟩, 40), (⟨"BurntWaysModel", "look", "(I)I"⟩, 40)]
theorem lw_r3 : ∀ q ∈ lw_privs_3, lw_okq q := List.forall_mem_cons.mpr ⟨lw_p32, List.forall_mem_cons.mpr ⟨lw_p33, List.forall_mem_cons.mpr ⟨lw_p34, List.forall_mem_cons.mpr ⟨lw_p35, List.forall_mem_cons.mpr ⟨lw_p36, List.forall_mem_cons.mpr ⟨lw_p37, List.forall_mem_cons.mpr ⟨lw_p38, List.forall_mem_cons.mpr ⟨lw_p39, List.forall_mem_cons.mpr ⟨lw_p40, List.forall_mem_cons.mpr ⟨lw_p41, List.forall_mem_cons.mpr ⟨lw_p42, List.forall_mem_cons.mpr ⟨lw_p43, List.forall_mem_cons.mpr ⟨lw_p44, List.forall_mem_cons.mpr ⟨lw_p45, List.forall_mem_cons.mpr ⟨lw_p46, List.forall_mem_cons.mpr ⟨lw_p47, fun _ h => absurd h List.not_mem_nil⟩⟩⟩⟩⟩⟩⟩⟩⟩⟩⟩⟩⟩⟩⟩⟩
theorem lw_p48 : lw_okq (⟨"BurntWaysModel", "readLine", "()V"⟩, 40) := ⟨⟨by decide +kernel, by decide +kernel⟩, List.mem_of_getElem? (i := 1065) (by decide +kernel), List.mem_of_getElem? (i := 1229) (by decide +kernel), List.mem_of_getElem? (i := 1230) (by decide +kernel)⟩
theorem lw_p49 : lw_okq (⟨"BurntWaysModel", "isWord", "(Ljava/lang/String;)Z"⟩, 40) := ⟨⟨by decide +kernel, by decide +kernel⟩, List.mem_of_getElem? (i := 1065) (by decide +kernel), List.mem_of_getElem? (i := 1234) (by decide +kernel), List.mem_of_getElem? (i := 1235) (by decide +kernel)⟩
theorem lw_p50 : lw_okq (⟨"BurntWaysModel", "programLine", "()V"⟩, 40) := ⟨⟨by decide +kernel, by decide +kernel⟩, List.mem_of_getElem? (i := 1065) (by decide +kernel), List.mem_of_getElem? (i := 1240) (by decide +kernel), List.mem_of_getElem? (i := 1241) (by decide +kernel)⟩
theorem lw_p51 : lw_okq (⟨"BurntWaysModel", "wrong", "(II)V"⟩, 40) := ⟨⟨by decide +kernel, by decide +kernel⟩, List.mem_of_getElem? (i := 1065) (by decide +kernel), List.mem_of_getElem? (i := 1244) (by decide +kernel), List.mem_of_getElem? (i := 1245) (by decide +kernel)⟩
theorem lw_p52 : lw_okq (⟨"BurntWaysModel", "mustName", "()V"⟩, 40) := ⟨⟨by decide +kernel, by decide +kernel⟩, List.mem_of_getElem? (i := 1065) (by decide +kernel), List.mem_of_getElem? (i := 1248) (by decide +kernel), List.mem_of_getElem? (i := 1249) (by decide +kernel)⟩
theorem lw_p53 : lw_okq (⟨"BurntWaysModel", "isCounter", "()Z"⟩, 40) := ⟨⟨by decide +kernel, by decide +kernel⟩, List.mem_of_getElem? (i := 1065) (by decide +kernel), List.mem_of_getElem? (i := 1252) (by decide +kernel), List.mem_of_getElem? (i := 1253) (by decide +kernel)⟩
theorem lw_p54 : lw_okq (⟨"BurntWaysModel", "find", "()I"⟩, 40) := ⟨⟨by decide +kernel, by decide +kernel⟩, List.mem_of_getElem? (i := 1065) (by decide +kernel), List.mem_of_getElem? (i := 1270) (by decide +kernel), List.mem_of_getElem? (i := 1271) (by decide +kernel)⟩
theorem lw_p55 : lw_okq (⟨"BurntWaysModel", "comma", "()Z"⟩, 40) := ⟨⟨by decide +kernel, by decide +kernel⟩, List.mem_of_getElem? (i := 1065) (by decide +kernel), List.mem_of_getElem? (i := 1274) (by decide +kernel), List.mem_of_getElem? (i := 1275) (by decide +kernel)⟩
theorem lw_p56 : lw_okq (⟨"BurntWaysModel", "lineLine", "()V"⟩, 40) := ⟨⟨by decide +kernel, by decide +kernel⟩, List.mem_of_getElem? (i := 1065) (by decide +kernel), List.mem_of_getElem? (i := 1278) (by decide +kernel), List.mem_of_getElem? (i := 1279) (by decide +kernel)⟩
theorem lw_p57 : lw_okq (⟨"BurntWaysModel", "lineHere", "()I"⟩, 40) := ⟨⟨by decide +kernel, by decide +kernel⟩, List.mem_of_getElem? (i := 1065) (by decide +kernel), List.mem_of_getElem? (i := 1282) (by decide +kernel), List.mem_of_getElem? (i := 1283) (by decide +kernel)⟩
theorem lw_p58 : lw_okq (⟨"BurntWaysModel", "takes", "(Ljava/lang/String;)Z"⟩, 40) := ⟨⟨by decide +kernel, by decide +kernel⟩, List.mem_of_getElem? (i := 1065) (by decide +kernel), List.mem_of_getElem? (i := 1286) (by decide +kernel), List.mem_of_getElem? (i := 1287) (by decide +kernel)⟩
theorem lw_p59 : lw_okq (⟨"BurntWaysModel", "readAct", "(II)V"⟩, 40) := ⟨⟨by decide +kernel, by decide +kernel⟩, List.mem_of_getElem? (i := 1065) (by decide +kernel), List.mem_of_getElem? (i := 1290) (by decide +kernel), List.mem_of_getElem? (i := 1291) (by decide +kernel)⟩
theorem lw_p60 : lw_okq (⟨"BurntWaysModel", "counterName", "()I"⟩, 40) := ⟨⟨by decide +kernel, by decide +kernel⟩, List.mem_of_getElem? (i := 1065) (by decide +kernel), List.mem_of_getElem? (i := 1294) (by decide +kernel), List.mem_of_getElem? (i := 1295) (by decide +kernel)⟩
theorem lw_p61 : lw_okq (⟨"BurntWaysModel", "number", "(II)I"⟩, 40) := ⟨⟨by decide +kernel, by decide +kernel⟩, List.mem_of_getElem? (i := 1065) (by decide +kernel), List.mem_of_getElem? (i := 1298) (by decide +kernel), List.mem_of_getElem? (i := 1299) (by decide +kernel)⟩
theorem lw_p62 : lw_okq (⟨"BurntWaysModel", "lineName", "()I"⟩, 40) := ⟨⟨by decide +kernel, by decide +kernel⟩, List.mem_of_getElem? (i := 1065) (by decide +kernel), List.mem_of_getElem? (i := 1302) (by decide +kernel), List.mem_of_getElem? (i := 1303) (by decide +kernel)⟩
theorem lw_p63 : lw_okq (⟨"BurntWaysModel", "pass", "(Ljava/lang/String;)V"⟩, 40) := ⟨⟨by decide +kernel, by decide +kernel⟩, List.mem_of_getElem? (i := 1065) (by decide +kernel), List.mem_of_getElem? (i := 1306) (by decide +kernel), List.mem_of_getElem? (i := 1307) (by decide +kernel)⟩
def lw_privs_4 : List (MethodName × Nat) := [(⟨"BurntWaysModel", "readLine", "()V"⟩, 40), (⟨"BurntWaysModel", "isWord", "(Ljava/lang/String;)Z"⟩, 40), (⟨"BurntWaysModel", "programLine", "()V"⟩, 40), (⟨"BurntWaysModel", "wrong", "(II)V"⟩, 40), (⟨"BurntWaysModel", "mustName", "()V"⟩, 40), (⟨"BurntWaysModel", "isCounter", "()Z"⟩, 40), (⟨"BurntWaysModel", "find", "()I"⟩, 40), (⟨"BurntWaysModel", "comma", "()Z"⟩, 40), (⟨"BurntWaysModel", "lineLine", "()V"⟩, 40), (⟨"BurntWaysModel", "lineHere", "()I"⟩, 40), (⟨"BurntWaysModel", "takes", "(Ljava/lang/String;)Z"⟩, 40), (⟨"BurntWaysModel", "readAct", "(II)V"⟩, 40), (⟨"BurntWaysModel", "counterName", "()I"⟩, 40), (⟨"BurntWaysModel", "number", "(II)I"⟩, 40), (⟨"BurntWaysModel", "lineName", "()I"⟩, 40), (⟨"BurntWaysModel", "pass", "(Ljava/lang/String;)V"⟩, 40)]
theorem lw_r4 : ∀ q ∈ lw_privs_4, lw_okq q := List.forall_mem_cons.mpr ⟨lw_p48, List.forall_mem_cons.mpr ⟨lw_p49, List.forall_mem_cons.mpr ⟨lw_p50, List.forall_mem_cons.mpr ⟨lw_p51, List.forall_mem_cons.mpr ⟨lw_p52, List.forall_mem_cons.mpr ⟨lw_p53, List.forall_mem_cons.mpr ⟨lw_p54, List.forall_mem_cons.mpr ⟨lw_p55, List.forall_mem_cons.mpr ⟨lw_p56, List.forall_mem_cons.mpr ⟨lw_p57, List.forall_mem_cons.mpr ⟨lw_p58, List.forall_mem_cons.mpr ⟨lw_p59, List.forall_mem_cons.mpr ⟨lw_p60, List.forall_mem_cons.mpr ⟨lw_p61, List.forall_mem_cons.mpr ⟨lw_p62, List.forall_mem_cons.mpr ⟨lw_p63, fun _ h => absurd h List.not_mem_nil⟩⟩⟩⟩⟩⟩⟩⟩⟩⟩⟩⟩⟩⟩⟩⟩
theorem lw_p64 : lw_okq (⟨"BurntWaysModel", "readGoal", "(I)V"⟩, 40) := ⟨⟨by decide +kernel, by decide +kernel⟩, List.mem_of_getElem? (i := 1065) (by decide +kernel), List.mem_of_getElem? (i := 1310) (by decide +kernel), List.mem_of_getElem? (i := 1311) (by decide +kernel)⟩
theorem lw_p65 : lw_okq (⟨"BurntWaysModel", "readWay", "(I)V"⟩, 40) := ⟨⟨by decide +kernel, by decide +kernel⟩, List.mem_of_getElem? (i := 1065) (by decide +kernel), List.mem_of_getElem? (i := 1314) (by decide +kernel), List.mem_of_getElem? (i := 1315) (by decide +kernel)⟩
theorem lw_p66 : lw_okq (⟨"BurntWaysModel", "wantLine", "()V"⟩, 40) := ⟨⟨by decide +kernel, by decide +kernel⟩, List.mem_of_getElem? (i := 1065) (by decide +kernel), List.mem_of_getElem? (i := 1318) (by decide +kernel), List.mem_of_getElem? (i := 1319) (by decide +kernel)⟩
theorem lw_p67 : lw_okq (⟨"BurntWaysModel", "mustComma", "()V"⟩, 40) := ⟨⟨by decide +kernel, by decide +kernel⟩, List.mem_of_getElem? (i := 1065) (by decide +kernel), List.mem_of_getElem? (i := 1322) (by decide +kernel), List.mem_of_getElem? (i := 1323) (by decide +kernel)⟩
theorem lw_p68 : lw_okq (⟨"BurntWaysModel", "countsWhy", "(IIII)I"⟩, 40) := ⟨⟨by decide +kernel, by decide +kernel⟩, List.mem_of_getElem? (i := 1065) (by decide +kernel), List.mem_of_getElem? (i := 1347) (by decide +kernel), List.mem_of_getElem? (i := 1348) (by decide +kernel)⟩
theorem lw_p69 : lw_okq (⟨"BurntWaysModel", "isNot", "(I)Z"⟩, 40) := ⟨⟨by decide +kernel, by decide +kernel⟩, List.mem_of_getElem? (i := 1065) (by decide +kernel), List.mem_of_getElem? (i := 1354) (by decide +kernel), List.mem_of_getElem? (i := 1355) (by decide +kernel)⟩
theorem lw_p70 : lw_okq (⟨"BurntWaysModel", "isWay", "(I)Z"⟩, 40) := ⟨⟨by decide +kernel, by decide +kernel⟩, List.mem_of_getElem? (i := 1065) (by decide +kernel), List.mem_of_getElem? (i := 1393) (by decide +kernel), List.mem_of_getElem? (i := 1394) (by decide +kernel)⟩
theorem lw_p71 : lw_okq (⟨"BurntWaysModel", "burntIn", "([I)I"⟩, 40) := ⟨⟨by decide +kernel, by decide +kernel⟩, List.mem_of_getElem? (i := 1065) (by decide +kernel), List.mem_of_getElem? (i := 1404) (by decide +kernel), List.mem_of_getElem? (i := 1405) (by decide +kernel)⟩
theorem lw_p72 : lw_okq (⟨"BurntWaysModel", "inputWhy", "(I)I"⟩, 40) := ⟨⟨by decide +kernel, by decide +kernel⟩, List.mem_of_getElem? (i := 1065) (by decide +kernel), List.mem_of_getElem? (i := 1438) (by decide +kernel), List.mem_of_getElem? (i := 1439) (by decide +kernel)⟩
theorem lw_p73 : lw_okq (⟨"BurntWaysModel", "allWays", "()I"⟩, 40) := ⟨⟨by decide +kernel, by decide +kernel⟩, List.mem_of_getElem? (i := 1065) (by decide +kernel), List.mem_of_getElem? (i := 1442) (by decide +kernel), List.mem_of_getElem? (i := 1443) (by decide +kernel)⟩
theorem lw_p74 : lw_okq (⟨"BurntWaysModel", "runOf", "([III)V"⟩, 40) := ⟨⟨by decide +kernel, by decide +kernel⟩, List.mem_of_getElem? (i := 1065) (by decide +kernel), List.mem_of_getElem? (i := 1446) (by decide +kernel), List.mem_of_getElem? (i := 1447) (by decide +kernel)⟩
theorem lw_p75 : lw_okq (⟨"BurntWaysModel", "findLongest", "(I)I"⟩, 40) := ⟨⟨by decide +kernel, by decide +kernel⟩, List.mem_of_getElem? (i := 1065) (by decide +kernel), List.mem_of_getElem? (i := 1462) (by decide +kernel), List.mem_of_getElem? (i := 1463) (by decide +kernel)⟩
theorem lw_p76 : lw_okq (⟨"BurntWaysModel", "answers", "([II)Z"⟩, 40) := ⟨⟨by decide +kernel, by decide +kernel⟩, List.mem_of_getElem? (i := 1065) (by decide +kernel), List.mem_of_getElem? (i := 1478) (by decide +kernel), List.mem_of_getElem? (i := 1479) (by decide +kernel)⟩
theorem lw_p77 : lw_okq (⟨"BurntWaysModel", "comeBut", "(I)I"⟩, 40) := ⟨⟨by decide +kernel, by decide +kernel⟩, List.mem_of_getElem? (i := 1065) (by decide +kernel), List.mem_of_getElem? (i := 1486) (by decide +kernel), List.mem_of_getElem? (i := 1487) (by decide +kernel)⟩
theorem lw_p78 : lw_okq (⟨"BurntWaysModel", "layRest", "()V"⟩, 40) := ⟨⟨by decide +kernel, by decide +kernel⟩, List.mem_of_getElem? (i := 1065) (by decide +kernel), List.mem_of_getElem? (i := 1497) (by decide +kernel), List.mem_of_getElem? (i := 1498) (by decide +kernel)⟩
theorem lw_p79 : lw_okq (⟨"BurntWaysModel", "isEven", "(I)Z"⟩, 40) := ⟨⟨by decide +kernel, by decide +kernel⟩, List.mem_of_getElem? (i := 1065) (by decide +kernel), List.mem_of_getElem? (i := 1501) (by decide +kernel), List.mem_of_getElem? (i := 1502) (by decide +kernel)⟩
def lw_privs_5 : List (MethodName × Nat) := [(⟨"BurntWaysModel", "readGoal", "(I)V"⟩, 40), (⟨"BurntWaysModel", "readWay", "(I)V"⟩, 40), (⟨"BurntWaysModel", "wantLine", "()V"⟩, 40), (⟨"BurntWaysModel", "mustComma", "()V"⟩, 40), (⟨"BurntWaysModel", "countsWhy", "(IIII)I"⟩, 40), (⟨"BurntWaysModel", "isNot", "(I)Z"⟩, 40), (⟨"BurntWaysModel", "isWay", "(I)Z"⟩, 40), (⟨"BurntWaysModel", "burntIn", "([I)I"⟩, 40), (⟨"BurntWaysModel", "inputWhy", "(I)I"⟩, 40), (⟨"BurntWaysModel", "allWays", "()I"⟩, 40), (⟨"BurntWaysModel", "runOf", "([III)V"⟩, 40), (⟨"BurntWaysModel", "findLongest", "(I)I"⟩, 40), (⟨"BurntWaysModel", "answers", "([II)Z"⟩, 40), (⟨"BurntWaysModel", "comeBut", "(I)I"⟩, 40), (⟨"BurntWaysModel", "layRest", "()V"⟩, 40), (⟨"BurntWaysModel", "isEven", "(I)Z"⟩, 40)]
theorem lw_r5 : ∀ q ∈ lw_privs_5, lw_okq q := List.forall_mem_cons.mpr ⟨lw_p64, List.forall_mem_cons.mpr ⟨lw_p65, List.forall_mem_cons.mpr ⟨lw_p66, List.forall_mem_cons.mpr ⟨lw_p67, List.forall_mem_cons.mpr ⟨lw_p68, List.forall_mem_cons.mpr ⟨lw_p69, List.forall_mem_cons.mpr ⟨lw_p70, List.forall_mem_cons.mpr ⟨lw_p71, List.forall_mem_cons.mpr ⟨lw_p72, List.forall_mem_cons.mpr ⟨lw_p73, List.forall_mem_cons.mpr ⟨lw_p74, List.forall_mem_cons.mpr ⟨lw_p75, List.forall_mem_cons.mpr ⟨lw_p76, List.forall_mem_cons.mpr ⟨lw_p77, List.forall_mem_cons.mpr ⟨lw_p78, List.forall_mem_cons.mpr ⟨lw_p79, fun _ h => absurd h List.not_mem_nil⟩⟩⟩⟩⟩⟩⟩⟩⟩⟩⟩⟩⟩⟩⟩⟩
theorem lw_p80 : lw_okq (⟨"BurntWaysModel", "goTrail", "()I"⟩, 40) := ⟨⟨by decide +kernel, by decide +kernel⟩, List.mem_of_getElem? (i := 1065) (by decide +kernel), List.mem_of_getElem? (i := 1513) (by decide +kernel), List.mem_of_getElem? (i := 1514) (by decide +kernel)⟩
theorem lw_p81 : lw_okq (⟨"BurntWaysModel", "linesOf", "(II)I"⟩, 40) := ⟨⟨by decide +kernel, by decide +kernel⟩, List.mem_of_getElem? (i := 1065) (by decide +kernel), List.mem_of_getElem? (i := 1529) (by decide +kernel), List.mem_of_getElem? (i := 1530) (by decide +kernel)⟩
theorem lw_p82 : lw_okq (⟨"BurntWaysModel", "wayWhy", "(II)I"⟩, 40) := ⟨⟨by decide +kernel, by decide +kernel⟩, List.mem_of_getElem? (i := 1065) (by decide +kernel), List.mem_of_getElem? (i := 1541) (by decide +kernel), List.mem_of_getElem? (i := 1542) (by decide +kernel)⟩
theorem lw_p83 : lw_okq (⟨"BurntWaysModel", "unlike", "([I[II)I"⟩, 40) := ⟨⟨by decide +kernel, by decide +kernel⟩, List.mem_of_getElem? (i := 1065) (by decide +kernel), List.mem_of_getElem? (i := 1549) (by decide +kernel), List.mem_of_getElem? (i := 1550) (by decide +kernel)⟩
theorem lw_p84 : lw_okq (⟨"BurntWaysModel", "arePair", "(II)Z"⟩, 40) := ⟨⟨by decide +kernel, by decide +kernel⟩, List.mem_of_getElem? (i := 1065) (by decide +kernel), List.mem_of_getElem? (i := 1561) (by decide +kernel), List.mem_of_getElem? (i := 1562) (by decide +kernel)⟩
theorem lw_p85 : lw_okq (⟨"BurntWaysModel", "areAlike", "([III)Z"⟩, 40) := ⟨⟨by decide +kernel, by decide +kernel⟩, List.mem_of_getElem? (i := 1065) (by decide +kernel), List.mem_of_getElem? (i := 1565) (by decide +kernel), List.mem_of_getElem? (i := 1566) (by decide +kernel)⟩
theorem lw_p86 : lw_okq (⟨"BurntWaysModel", "merge", "([III[I)V"⟩, 40) := ⟨⟨by decide +kernel, by decide +kernel⟩, List.mem_of_getElem? (i := 1065) (by decide +kernel), List.mem_of_getElem? (i := 1573) (by decide +kernel), List.mem_of_getElem? (i := 1574) (by decide +kernel)⟩
theorem lw_p87 : lw_okq (⟨"BurntWaysModel", "foldsOne", "(I)Z"⟩, 40) := ⟨⟨by decide +kernel, by decide +kernel⟩, List.mem_of_getElem? (i := 1065) (by decide +kernel), List.mem_of_getElem? (i := 1581) (by decide +kernel), List.mem_of_getElem? (i := 1582) (by decide +kernel)⟩
theorem lw_p88 : lw_okq (⟨"BurntWaysModel", "leastWhy", "(I)I"⟩, 40) := ⟨⟨by decide +kernel, by decide +kernel⟩, List.mem_of_getElem? (i := 1065) (by decide +kernel), List.mem_of_getElem? (i := 1593) (by decide +kernel), List.mem_of_getElem? (i := 1594) (by decide +kernel)⟩
theorem lw_p89 : lw_okq (⟨"BurntWaysModel", "findLeast", "(I)I"⟩, 40) := ⟨⟨by decide +kernel, by decide +kernel⟩, List.mem_of_getElem? (i := 1065) (by decide +kernel), List.mem_of_getElem? (i := 1597) (by decide +kernel), List.mem_of_getElem? (i := 1598) (by decide +kernel)⟩
theorem lw_p90 : lw_okq (⟨"BurntWaysModel", "layLine", "(IIII)V"⟩, 40) := ⟨⟨by decide +kernel, by decide +kernel⟩, List.mem_of_getElem? (i := 1065) (by decide +kernel), List.mem_of_getElem? (i := 1601) (by decide +kernel), List.mem_of_getElem? (i := 1602) (by decide +kernel)⟩
theorem lw_p91 : lw_okq (⟨"BurntWaysModel", "answersAll", "()Z"⟩, 40) := ⟨⟨by decide +kernel, by decide +kernel⟩, List.mem_of_getElem? (i := 1065) (by decide +kernel), List.mem_of_getElem? (i := 1605) (by decide +kernel), List.mem_of_getElem? (i := 1606) (by decide +kernel)⟩
theorem lw_p92 : lw_okq (⟨"BurntWaysModel", "toldLines", "()I"⟩, 40) := ⟨⟨by decide +kernel, by decide +kernel⟩, List.mem_of_getElem? (i := 1065) (by decide +kernel), List.mem_of_getElem? (i := 1625) (by decide +kernel), List.mem_of_getElem? (i := 1626) (by decide +kernel)⟩
def lw_privs_6 : List (MethodName × Nat) := [(⟨"BurntWaysModel", "goTrail", "()I"⟩, 40), (⟨"BurntWaysModel", "linesOf", "(II)I"⟩, 40), (⟨"BurntWaysModel", "wayWhy", "(II)I"⟩, 40), (⟨"BurntWaysModel", "unlike", "([I[II)I"⟩, 40), (⟨"BurntWaysModel", "arePair", "(II)Z"⟩, 40), (⟨"BurntWaysModel", "areAlike", "([III)Z"⟩, 40), (⟨"BurntWaysModel", "merge", "([III[I)V"⟩, 40), (⟨"BurntWaysModel", "foldsOne", "(I)Z"⟩, 40), (⟨"BurntWaysModel", "leastWhy", "(I)I"⟩, 40), (⟨"BurntWaysModel", "findLeast", "(I)I"⟩, 40), (⟨"BurntWaysModel", "layLine", "(IIII)V"⟩, 40), (⟨"BurntWaysModel", "answersAll", "()Z"⟩, 40), (⟨"BurntWaysModel", "toldLines", "()I"⟩, 40)]
theorem lw_r6 : ∀ q ∈ lw_privs_6, lw_okq q := List.forall_mem_cons.mpr ⟨lw_p80, List.forall_mem_cons.mpr ⟨lw_p81, List.forall_mem_cons.mpr ⟨lw_p82, List.forall_mem_cons.mpr ⟨lw_p83, List.forall_mem_cons.mpr ⟨lw_p84, List.forall_mem_cons.mpr ⟨lw_p85, List.forall_mem_cons.mpr ⟨lw_p86, List.forall_mem_cons.mpr ⟨lw_p87, List.forall_mem_cons.mpr ⟨lw_p88, List.forall_mem_cons.mpr ⟨lw_p89, List.forall_mem_cons.mpr ⟨lw_p90, List.forall_mem_cons.mpr ⟨lw_p91, List.forall_mem_cons.mpr ⟨lw_p92, fun _ h => absurd h List.not_mem_nil⟩⟩⟩⟩⟩⟩⟩⟩⟩⟩⟩⟩⟩
def lw_privs : List (MethodName × Nat) := lw_privs_1 ++ (lw_privs_2 ++ (lw_privs_3 ++ (lw_privs_4 ++ (lw_privs_5 ++ (lw_privs_6)))))
def lw_tbl : List Cond := k2_sels lw_privs ++ tables_1
theorem lw_privs_ok : ∀ q ∈ lw_privs, lw_okq q := by
  show ∀ q ∈ lw_privs_1 ++ (lw_privs_2 ++ (lw_privs_3 ++ (lw_privs_4 ++ (lw_privs_5 ++ (lw_privs_6))))), lw_okq q
  exact List.forall_mem_append.mpr ⟨lw_r1, List.forall_mem_append.mpr ⟨lw_r2, List.forall_mem_append.mpr ⟨lw_r3, List.forall_mem_append.mpr ⟨lw_r4, List.forall_mem_append.mpr ⟨lw_r5, lw_r6⟩⟩⟩⟩⟩
end
section
/-! ===== BEGIN words of one list among another's, by their places ===== -/
theorem goodIn_r {big : List Cond} (ws : List Cond) (ps : List Nat) (hp : ws = ps.filterMap (fun i => big[i]?)) (h : ws.all goodWord = true) : GoodIn big ws := by
  intro w hw
  have h1 := List.all_eq_true.mp h w hw
  rw [hp] at hw
  obtain ⟨i, -, hi⟩ := List.mem_filterMap.mp hw
  have hm : w ∈ big := by first | exact List.mem_of_getElem? hi | exact List.getElem?_mem hi
  exact ⟨hm, good_of_word h1⟩
theorem goodIn_app {big a b : List Cond} (ha : GoodIn big a) (hb : GoodIn big b) : GoodIn big (a ++ b) := fun w h => (List.mem_append.mp h).elim (ha w) (hb w)
theorem goodIn_ca {big a b : List Cond} {c : Cond} (ha : GoodIn big (c :: a)) (hb : GoodIn big b) : GoodIn big (c :: (a ++ b)) := fun w h => (List.mem_cons.mp h).elim (fun e => ha w (List.mem_cons.mpr (Or.inl e))) (fun h => (List.mem_append.mp h).elim (fun h => ha w (List.mem_cons.mpr (Or.inr h))) (hb w))
theorem goodIn_sub {big ws : List Cond} (hm : ∀ w ∈ ws, w ∈ big) (h : ws.all goodWord = true) : GoodIn big ws := fun w hw => ⟨hm w hw, good_of_word (List.all_eq_true.mp h w hw)⟩
/-! ===== END ===== -/
def RX0 : String := "BurntWays$Least"
def TX0 : u_T := fun k => match k with
  | 0 => ("BurntWays$Least", "lineCounts", "[I", true)
  | 1 => ("BurntWays$Least", "found", "[I", true)
  | 2 => ("BurntWays$Least", "numbers", "[I", true)
  | 3 => ("BurntWays$Least", "acts", "[I", true)
  | 4 => ("BurntWays$Least", "toLines", "[I", true)
  | 5 => ("BurntWays$Least", "elseLines", "[I", true)
  | _ => ("BurntWays$Least", "taken", "[I", true)
def tyX0 : Nat → FieldType := fun k => match k with
  | 0 => .array .int
  | 1 => .array .int
  | 2 => .array .int
  | 3 => .array .int
  | 4 => .array .int
  | 5 => .array .int
  | _ => .array .int
abbrev wsX00 : List Cond := u_ws RX0 TX0 7
theorem nmX0 : ∀ a, a < 7 → ∀ b, b < 7 → a ≠ b → (TX0 a).2.1 ≠ (TX0 b).2.1 := by decide +kernel
theorem tyX0_ok : ∀ k, k < 7 → parseFieldDescriptor (TX0 k).2.2.1 = some (tyX0 k) := by decide +kernel
abbrev cX0_init : ByteArray := prog_2_method_1_code
def yX0_init : MethodName := ⟨RX0, "<init>", "()V"⟩
abbrev cX0_forget : ByteArray := prog_2_method_2_code
def yX0_forget : MethodName := ⟨RX0, "forget", "()V"⟩
abbrev cX0_linesOf : ByteArray := prog_2_method_3_code
def yX0_linesOf : MethodName := ⟨RX0, "linesOf", "(LBurntWays$Wants;I)I"⟩
abbrev cX0_numberOf : ByteArray := prog_2_method_4_code
def yX0_numberOf : MethodName := ⟨RX0, "numberOf", "(II)I"⟩
abbrev cX0_seek : ByteArray := prog_2_method_5_code
def yX0_seek : MethodName := ⟨RX0, "seek", "(LBurntWays$Wants;I)I"⟩
abbrev cX0_seekOf : ByteArray := prog_2_method_6_code
def yX0_seekOf : MethodName := ⟨RX0, "seekOf", "(ILBurntWays$Wants;I)Z"⟩
abbrev cX0_goalsOf : ByteArray := prog_2_method_7_code
def yX0_goalsOf : MethodName := ⟨RX0, "goalsOf", "(I)I"⟩
abbrev cX0_tell : ByteArray := prog_2_method_8_code
def yX0_tell : MethodName := ⟨RX0, "tell", "(II)V"⟩
abbrev cX0_mayAnswer : ByteArray := prog_2_method_9_code
def yX0_mayAnswer : MethodName := ⟨RX0, "mayAnswer", "(LBurntWays$Wants;II)Z"⟩
abbrev cX0_mayAnswerOne : ByteArray := prog_2_method_10_code
def yX0_mayAnswerOne : MethodName := ⟨RX0, "mayAnswerOne", "(LBurntWays$Wants;III)Z"⟩
def RX1 : String := "BurntWays$Marks"
def TX1 : u_T := fun k => match k with
  | 0 => ("BurntWays$Marks", "count", "I", false)
  | 1 => ("BurntWays$Marks", "nets", "[LBurntWays$Net;", true)
  | _ => ("BurntWays$Marks", "walks", "[LBurntWays$Walk;", true)
def tyX1 : Nat → FieldType := fun k => match k with
  | 0 => .int
  | 1 => .array (.object "BurntWays$Net")
  | _ => .array (.object "BurntWays$Walk")
abbrev wsX10 : List Cond := u_ws RX1 TX1 3
theorem nmX1 : ∀ a, a < 3 → ∀ b, b < 3 → a ≠ b → (TX1 a).2.1 ≠ (TX1 b).2.1 := by decide +kernel
theorem tyX1_ok : ∀ k, k < 3 → parseFieldDescriptor (TX1 k).2.2.1 = some (tyX1 k) := by decide +kernel
abbrev cX1_init : ByteArray := prog_3_method_1_code
def yX1_init : MethodName := ⟨RX1, "<init>", "()V"⟩
abbrev cX1_keep : ByteArray := prog_3_method_2_code
def yX1_keep : MethodName := ⟨RX1, "keep", "(LBurntWays$Net;LBurntWays$Walk;)I"⟩
def RX2 : String := "BurntWays$Net"
def TX2 : u_T := fun k => match k with
  | 0 => ("BurntWays$Net", "lines", "I", false)
  | 1 => ("BurntWays$Net", "goals", "[I", true)
  | 2 => ("BurntWays$Net", "asked", "[I", true)
  | 3 => ("BurntWays$Net", "actCounts", "[I", true)
  | 4 => ("BurntWays$Net", "actKinds", "[I", true)
  | 5 => ("BurntWays$Net", "actTargets", "[I", true)
  | 6 => ("BurntWays$Net", "actValues", "[I", true)
  | 7 => ("BurntWays$Net", "leads", "[I", true)
  | _ => ("BurntWays$Net", "laid", "[I", true)
def tyX2 : Nat → FieldType := fun k => match k with
  | 0 => .int
  | 1 => .array .int
  | 2 => .array .int
  | 3 => .array .int
  | 4 => .array .int
  | 5 => .array .int
  | 6 => .array .int
  | 7 => .array .int
  | _ => .array .int
abbrev wsX20 : List Cond := u_ws RX2 TX2 9
theorem nmX2 : ∀ a, a < 9 → ∀ b, b < 9 → a ≠ b → (TX2 a).2.1 ≠ (TX2 b).2.1 := by decide +kernel
theorem tyX2_ok : ∀ k, k < 9 → parseFieldDescriptor (TX2 k).2.2.1 = some (tyX2 k) := by decide +kernel
abbrev cX2_init : ByteArray := prog_4_method_1_code
def yX2_init : MethodName := ⟨RX2, "<init>", "()V"⟩
abbrev cX2_clear : ByteArray := prog_4_method_2_code
def yX2_clear : MethodName := ⟨RX2, "clear", "()V"⟩
abbrev cX2_untell : ByteArray := prog_4_method_3_code
def yX2_untell : MethodName := ⟨RX2, "untell", "(I)V"⟩
abbrev cX2_copyFrom : ByteArray := prog_4_method_4_code
def yX2_copyFrom : MethodName := ⟨RX2, "copyFrom", "(LBurntWays$Net;)V"⟩
abbrev cX2_hasLine : ByteArray := prog_4_method_5_code
def yX2_hasLine : MethodName := ⟨RX2, "hasLine", "(I)Z"⟩
abbrev cX2_tells : ByteArray := prog_4_method_6_code
def yX2_tells : MethodName := ⟨RX2, "tells", "(I)Z"⟩
abbrev cX2_hasWay : ByteArray := prog_4_method_7_code
def yX2_hasWay : MethodName := ⟨RX2, "hasWay", "(I)Z"⟩
abbrev cX2_toldLines : ByteArray := prog_4_method_8_code
def yX2_toldLines : MethodName := ⟨RX2, "toldLines", "()I"⟩
abbrev cX2_toldLine : ByteArray := prog_4_method_9_code
def yX2_toldLine : MethodName := ⟨RX2, "toldLine", "(I)I"⟩
abbrev cX2_wayCount : ByteArray := prog_4_method_10_code
def yX2_wayCount : MethodName := ⟨RX2, "wayCount", "()I"⟩
abbrev cX2_wayBits : ByteArray := prog_4_method_11_code
def yX2_wayBits : MethodName := ⟨RX2, "wayBits", "()I"⟩
abbrev cX2_laidInAll : ByteArray := prog_4_method_12_code
def yX2_laidInAll : MethodName := ⟨RX2, "laidInAll", "()I"⟩
abbrev cX2_partOf : ByteArray := prog_4_method_13_code
def yX2_partOf : MethodName := ⟨RX2, "partOf", "(II)I"⟩
abbrev cX2_degreeOf : ByteArray := prog_4_method_14_code
def yX2_degreeOf : MethodName := ⟨RX2, "degreeOf", "(I)I"⟩
abbrev cX2_reach : ByteArray := prog_4_method_15_code
def yX2_reach : MethodName := ⟨RX2, "reach", "(I)I"⟩
abbrev cX2_keyWays : ByteArray := prog_4_method_16_code
def yX2_keyWays : MethodName := ⟨RX2, "keyWays", "()I"⟩
abbrev cX2_isEven : ByteArray := prog_4_method_17_code
def yX2_isEven : MethodName := ⟨RX2, "isEven", "()Z"⟩
abbrev cX2_isBalanced : ByteArray := prog_4_method_18_code
def yX2_isBalanced : MethodName := ⟨RX2, "isBalanced", "()Z"⟩
abbrev cX2_hangTogether : ByteArray := prog_4_method_19_code
def yX2_hangTogether : MethodName := ⟨RX2, "hangTogether", "([II)Z"⟩
abbrev cX2_areAlike : ByteArray := prog_4_method_20_code
def yX2_areAlike : MethodName := ⟨RX2, "areAlike", "(II)Z"⟩
abbrev cX2_haveSameActs : ByteArray := prog_4_method_21_code
def yX2_haveSameActs : MethodName := ⟨RX2, "haveSameActs", "(II)Z"⟩
abbrev cX2_copyMerged : ByteArray := prog_4_method_22_code
def yX2_copyMerged : MethodName := ⟨RX2, "copyMerged", "(LBurntWays$Net;II)V"⟩
def RX3 : String := "BurntWays$Reader"
def TX3 : u_T := fun k => match k with
  | 0 => ("BurntWays$Reader", "tape", "[B", true)
  | 1 => ("BurntWays$Reader", "tapeLength", "I", false)
  | 2 => ("BurntWays$Reader", "net", "LBurntWays$Net;", true)
  | 3 => ("BurntWays$Reader", "wants", "LBurntWays$Wants;", true)
  | 4 => ("BurntWays$Reader", "fault", "I", false)
  | 5 => ("BurntWays$Reader", "faultPlace", "I", false)
  | 6 => ("BurntWays$Reader", "reserved", "[J", true)
  | 7 => ("BurntWays$Reader", "names", "[J", true)
  | 8 => ("BurntWays$Reader", "textLength", "I", false)
  | 9 => ("BurntWays$Reader", "kind", "I", false)
  | 10 => ("BurntWays$Reader", "place", "I", false)
  | 11 => ("BurntWays$Reader", "behind", "I", false)
  | 12 => ("BurntWays$Reader", "word", "J", false)
  | _ => ("BurntWays$Reader", "number", "I", false)
def tyX3 : Nat → FieldType := fun k => match k with
  | 0 => .array .byte
  | 1 => .int
  | 2 => .object "BurntWays$Net"
  | 3 => .object "BurntWays$Wants"
  | 4 => .int
  | 5 => .int
  | 6 => .array .long
  | 7 => .array .long
  | 8 => .int
  | 9 => .int
  | 10 => .int
  | 11 => .int
  | 12 => .long
  | _ => .int
abbrev wsX30 : List Cond := u_ws RX3 TX3 14
theorem nmX3 : ∀ a, a < 14 → ∀ b, b < 14 → a ≠ b → (TX3 a).2.1 ≠ (TX3 b).2.1 := by decide +kernel
theorem tyX3_ok : ∀ k, k < 14 → parseFieldDescriptor (TX3 k).2.2.1 = some (tyX3 k) := by decide +kernel
abbrev cX3_init : ByteArray := prog_5_method_1_code
def yX3_init : MethodName := ⟨RX3, "<init>", "()V"⟩
abbrev cX3_put : ByteArray := prog_5_method_2_code
def yX3_put : MethodName := ⟨RX3, "put", "(I)V"⟩
abbrev cX3_read : ByteArray := prog_5_method_3_code
def yX3_read : MethodName := ⟨RX3, "read", "(I)Z"⟩
abbrev cX3_readNames : ByteArray := prog_5_method_4_code
def yX3_readNames : MethodName := ⟨RX3, "readNames", "()Z"⟩
abbrev cX3_readLine : ByteArray := prog_5_method_5_code
def yX3_readLine : MethodName := ⟨RX3, "readLine", "()Z"⟩
abbrev cX3_readActs : ByteArray := prog_5_method_6_code
def yX3_readActs : MethodName := ⟨RX3, "readActs", "(I)Z"⟩
abbrev cX3_readAct : ByteArray := prog_5_method_7_code
def yX3_readAct : MethodName := ⟨RX3, "readAct", "(I)Z"⟩
abbrev cX3_readGoal : ByteArray := prog_5_method_8_code
def yX3_readGoal : MethodName := ⟨RX3, "readGoal", "(I)Z"⟩
abbrev cX3_readAsked : ByteArray := prog_5_method_9_code
def yX3_readAsked : MethodName := ⟨RX3, "readAsked", "(I)Z"⟩
abbrev cX3_readWay : ByteArray := prog_5_method_10_code
def yX3_readWay : MethodName := ⟨RX3, "readWay", "(I)Z"⟩
abbrev cX3_readWant : ByteArray := prog_5_method_11_code
def yX3_readWant : MethodName := ⟨RX3, "readWant", "()Z"⟩
abbrev cX3_fail : ByteArray := prog_5_method_12_code
def yX3_fail : MethodName := ⟨RX3, "fail", "(I)Z"⟩
abbrev cX3_isWord : ByteArray := prog_5_method_13_code
def yX3_isWord : MethodName := ⟨RX3, "isWord", "(I)Z"⟩
abbrev cX3_isCounter : ByteArray := prog_5_method_14_code
def yX3_isCounter : MethodName := ⟨RX3, "isCounter", "()Z"⟩
abbrev cX3_isKnownName : ByteArray := prog_5_method_15_code
def yX3_isKnownName : MethodName := ⟨RX3, "isKnownName", "()Z"⟩
abbrev cX3_isWhole : ByteArray := prog_5_method_16_code
def yX3_isWhole : MethodName := ⟨RX3, "isWhole", "(II)Z"⟩
abbrev cX3_findName : ByteArray := prog_5_method_17_code
def yX3_findName : MethodName := ⟨RX3, "findName", "()I"⟩
abbrev cX3_advance : ByteArray := prog_5_method_18_code
def yX3_advance : MethodName := ⟨RX3, "advance", "()V"⟩
abbrev cX3_lookAtWord : ByteArray := prog_5_method_19_code
def yX3_lookAtWord : MethodName := ⟨RX3, "lookAtWord", "()V"⟩
abbrev cX3_lookAtWhole : ByteArray := prog_5_method_20_code
def yX3_lookAtWhole : MethodName := ⟨RX3, "lookAtWhole", "()V"⟩
def RX4 : String := "BurntWays$Survey"
def TX4 : u_T := fun k => match k with
  | 0 => ("BurntWays$Survey", "bound", "I", false)
  | 1 => ("BurntWays$Survey", "inputs", "I", false)
  | 2 => ("BurntWays$Survey", "mustWays", "I", false)
  | 3 => ("BurntWays$Survey", "untakenWays", "I", false)
  | 4 => ("BurntWays$Survey", "wholeInput", "I", false)
  | 5 => ("BurntWays$Survey", "longestSteps", "I", false)
  | 6 => ("BurntWays$Survey", "longestInput", "I", false)
  | 7 => ("BurntWays$Survey", "seenLines", "I", false)
  | 8 => ("BurntWays$Survey", "endings", "[I", true)
  | 9 => ("BurntWays$Survey", "firstInputs", "[I", true)
  | 10 => ("BurntWays$Survey", "mostTaken", "[I", true)
  | 11 => ("BurntWays$Survey", "endingOf", "[I", true)
  | _ => ("BurntWays$Survey", "walk", "LBurntWays$Walk;", true)
def tyX4 : Nat → FieldType := fun k => match k with
  | 0 => .int
  | 1 => .int
  | 2 => .int
  | 3 => .int
  | 4 => .int
  | 5 => .int
  | 6 => .int
  | 7 => .int
  | 8 => .array .int
  | 9 => .array .int
  | 10 => .array .int
  | 11 => .array .int
  | _ => .object "BurntWays$Walk"
abbrev wsX40 : List Cond := u_ws RX4 TX4 13
theorem nmX4 : ∀ a, a < 13 → ∀ b, b < 13 → a ≠ b → (TX4 a).2.1 ≠ (TX4 b).2.1 := by decide +kernel
theorem tyX4_ok : ∀ k, k < 13 → parseFieldDescriptor (TX4 k).2.2.1 = some (tyX4 k) := by decide +kernel
abbrev cX4_init : ByteArray := prog_6_method_1_code
def yX4_init : MethodName := ⟨RX4, "<init>", "()V"⟩
abbrev cX4_look : ByteArray := prog_6_method_2_code
def yX4_look : MethodName := ⟨RX4, "look", "(LBurntWays$Net;I)V"⟩
abbrev cX4_noteRun : ByteArray := prog_6_method_3_code
def yX4_noteRun : MethodName := ⟨RX4, "noteRun", "(LBurntWays$Net;I)V"⟩
abbrev cX4_noteLines : ByteArray := prog_6_method_4_code
def yX4_noteLines : MethodName := ⟨RX4, "noteLines", "(I)V"⟩
abbrev cX4_noteWays : ByteArray := prog_6_method_5_code
def yX4_noteWays : MethodName := ⟨RX4, "noteWays", "()V"⟩
abbrev cX4_firstUnlike : ByteArray := prog_6_method_6_code
def yX4_firstUnlike : MethodName := ⟨RX4, "firstUnlike", "(LBurntWays$Net;)I"⟩
abbrev cX4_countAlike : ByteArray := prog_6_method_7_code
def yX4_countAlike : MethodName := ⟨RX4, "countAlike", "(LBurntWays$Net;)I"⟩
abbrev cX4_endsAlike : ByteArray := prog_6_method_8_code
def yX4_endsAlike : MethodName := ⟨RX4, "endsAlike", "(LBurntWays$Net;I)Z"⟩
def RX5 : String := "BurntWays$Trail"
def TX5 : u_T := fun k => match k with
  | 0 => ("BurntWays$Trail", "known", "Z", false)
  | 1 => ("BurntWays$Trail", "length", "I", false)
  | 2 => ("BurntWays$Trail", "ways", "[I", true)
  | _ => ("BurntWays$Trail", "waysLeft", "[I", true)
def tyX5 : Nat → FieldType := fun k => match k with
  | 0 => .boolean
  | 1 => .int
  | 2 => .array .int
  | _ => .array .int
abbrev wsX50 : List Cond := u_ws RX5 TX5 4
theorem nmX5 : ∀ a, a < 4 → ∀ b, b < 4 → a ≠ b → (TX5 a).2.1 ≠ (TX5 b).2.1 := by decide +kernel
theorem tyX5_ok : ∀ k, k < 4 → parseFieldDescriptor (TX5 k).2.2.1 = some (tyX5 k) := by decide +kernel
abbrev cX5_init : ByteArray := prog_7_method_1_code
def yX5_init : MethodName := ⟨RX5, "<init>", "()V"⟩
abbrev cX5_find : ByteArray := prog_7_method_2_code
def yX5_find : MethodName := ⟨RX5, "find", "(LBurntWays$Net;)V"⟩
abbrev cX5_goThrough : ByteArray := prog_7_method_3_code
def yX5_goThrough : MethodName := ⟨RX5, "goThrough", "(LBurntWays$Net;)V"⟩
abbrev cX5_nextWay : ByteArray := prog_7_method_4_code
def yX5_nextWay : MethodName := ⟨RX5, "nextWay", "(LBurntWays$Net;I)I"⟩
def RX6 : String := "BurntWays$Walk"
def TX6 : u_T := fun k => match k with
  | 0 => ("BurntWays$Walk", "at", "I", false)
  | 1 => ("BurntWays$Walk", "stepCount", "I", false)
  | 2 => ("BurntWays$Walk", "ended", "I", false)
  | 3 => ("BurntWays$Walk", "takenInAll", "I", false)
  | 4 => ("BurntWays$Walk", "seenLines", "I", false)
  | 5 => ("BurntWays$Walk", "counters", "[I", true)
  | 6 => ("BurntWays$Walk", "taken", "[I", true)
  | 7 => ("BurntWays$Walk", "everTaken", "[I", true)
  | 8 => ("BurntWays$Walk", "given", "J", false)
  | _ => ("BurntWays$Walk", "linesBehind", "[I", true)
def tyX6 : Nat → FieldType := fun k => match k with
  | 0 => .int
  | 1 => .int
  | 2 => .int
  | 3 => .int
  | 4 => .int
  | 5 => .array .int
  | 6 => .array .int
  | 7 => .array .int
  | 8 => .long
  | _ => .array .int
abbrev wsX60 : List Cond := u_ws RX6 TX6 10
theorem nmX6 : ∀ a, a < 10 → ∀ b, b < 10 → a ≠ b → (TX6 a).2.1 ≠ (TX6 b).2.1 := by decide +kernel
theorem tyX6_ok : ∀ k, k < 10 → parseFieldDescriptor (TX6 k).2.2.1 = some (tyX6 k) := by decide +kernel
abbrev cX6_init : ByteArray := prog_8_method_1_code
def yX6_init : MethodName := ⟨RX6, "<init>", "()V"⟩
abbrev cX6_begin : ByteArray := prog_8_method_2_code
def yX6_begin : MethodName := ⟨RX6, "begin", "(LBurntWays$Net;IIII)V"⟩
abbrev cX6_beginInput : ByteArray := prog_8_method_3_code
def yX6_beginInput : MethodName := ⟨RX6, "beginInput", "(LBurntWays$Net;II)V"⟩
abbrev cX6_copyFrom : ByteArray := prog_8_method_4_code
def yX6_copyFrom : MethodName := ⟨RX6, "copyFrom", "(LBurntWays$Walk;)V"⟩
abbrev cX6_goOn : ByteArray := prog_8_method_5_code
def yX6_goOn : MethodName := ⟨RX6, "goOn", "(LBurntWays$Net;I)I"⟩
abbrev cX6_step : ByteArray := prog_8_method_6_code
def yX6_step : MethodName := ⟨RX6, "step", "(LBurntWays$Net;)V"⟩
abbrev cX6_act : ByteArray := prog_8_method_7_code
def yX6_act : MethodName := ⟨RX6, "act", "(LBurntWays$Net;I)V"⟩
abbrev cX6_take : ByteArray := prog_8_method_8_code
def yX6_take : MethodName := ⟨RX6, "take", "(LBurntWays$Net;I)V"⟩
abbrev cX6_burntWays : ByteArray := prog_8_method_9_code
def yX6_burntWays : MethodName := ⟨RX6, "burntWays", "(LBurntWays$Net;)I"⟩
abbrev cX6_partsFrom : ByteArray := prog_8_method_10_code
def yX6_partsFrom : MethodName := ⟨RX6, "partsFrom", "(LBurntWays$Walk;LBurntWays$Net;)I"⟩
abbrev cX6_ending : ByteArray := prog_8_method_11_code
def yX6_ending : MethodName := ⟨RX6, "ending", "()I"⟩
def RX7 : String := "BurntWays$Wants"
def TX7 : u_T := fun k => match k with
  | 0 => ("BurntWays$Wants", "count", "I", false)
  | _ => ("BurntWays$Wants", "parts", "[I", true)
def tyX7 : Nat → FieldType := fun k => match k with
  | 0 => .int
  | _ => .array .int
abbrev wsX70 : List Cond := u_ws RX7 TX7 2
theorem nmX7 : ∀ a, a < 2 → ∀ b, b < 2 → a ≠ b → (TX7 a).2.1 ≠ (TX7 b).2.1 := by decide +kernel
theorem tyX7_ok : ∀ k, k < 2 → parseFieldDescriptor (TX7 k).2.2.1 = some (tyX7 k) := by decide +kernel
abbrev cX7_init : ByteArray := prog_9_method_1_code
def yX7_init : MethodName := ⟨RX7, "<init>", "()V"⟩
abbrev cX7_part : ByteArray := prog_9_method_2_code
def yX7_part : MethodName := ⟨RX7, "part", "(II)I"⟩
abbrev cX7_put : ByteArray := prog_9_method_3_code
def yX7_put : MethodName := ⟨RX7, "put", "(III)V"⟩
abbrev cX7_copyFrom : ByteArray := prog_9_method_4_code
def yX7_copyFrom : MethodName := ⟨RX7, "copyFrom", "(LBurntWays$Wants;)V"⟩
def RX8 : String := "BurntWays"
def TX8 : u_T := fun k => match k with
  | 0 => ("BurntWays", "latestTrouble", "I", false)
  | 1 => ("BurntWays", "loaded", "Z", false)
  | 2 => ("BurntWays", "reader", "LBurntWays$Reader;", true)
  | 3 => ("BurntWays", "toldNet", "LBurntWays$Net;", true)
  | 4 => ("BurntWays", "net", "LBurntWays$Net;", true)
  | 5 => ("BurntWays", "trialNet", "LBurntWays$Net;", true)
  | 6 => ("BurntWays", "wants", "LBurntWays$Wants;", true)
  | 7 => ("BurntWays", "walk", "LBurntWays$Walk;", true)
  | 8 => ("BurntWays", "trialWalk", "LBurntWays$Walk;", true)
  | 9 => ("BurntWays", "otherWalk", "LBurntWays$Walk;", true)
  | 10 => ("BurntWays", "survey", "LBurntWays$Survey;", true)
  | 11 => ("BurntWays", "trailRow", "LBurntWays$Trail;", true)
  | 12 => ("BurntWays", "leastPrograms", "LBurntWays$Least;", true)
  | _ => ("BurntWays", "marks", "LBurntWays$Marks;", true)
def tyX8 : Nat → FieldType := fun k => match k with
  | 0 => .int
  | 1 => .boolean
  | 2 => .object "BurntWays$Reader"
  | 3 => .object "BurntWays$Net"
  | 4 => .object "BurntWays$Net"
  | 5 => .object "BurntWays$Net"
  | 6 => .object "BurntWays$Wants"
  | 7 => .object "BurntWays$Walk"
  | 8 => .object "BurntWays$Walk"
  | 9 => .object "BurntWays$Walk"
  | 10 => .object "BurntWays$Survey"
  | 11 => .object "BurntWays$Trail"
  | 12 => .object "BurntWays$Least"
  | _ => .object "BurntWays$Marks"
abbrev wsX80 : List Cond := u_ws RX8 TX8 14
theorem nmX8 : ∀ a, a < 14 → ∀ b, b < 14 → a ≠ b → (TX8 a).2.1 ≠ (TX8 b).2.1 := by decide +kernel
theorem tyX8_ok : ∀ k, k < 14 → parseFieldDescriptor (TX8 k).2.2.1 = some (tyX8 k) := by decide +kernel
abbrev cX8_init : ByteArray := prog_1_method_1_code
def yX8_init : MethodName := ⟨RX8, "<init>", "()V"⟩
abbrev cX8_feed : ByteArray := prog_1_method_2_code
def yX8_feed : MethodName := ⟨RX8, "feed", "(IIIII)I"⟩
abbrev cX8_program : ByteArray := prog_1_method_3_code
def yX8_program : MethodName := ⟨RX8, "program", "(I)I"⟩
abbrev cX8_fault : ByteArray := prog_1_method_4_code
def yX8_fault : MethodName := ⟨RX8, "fault", "()I"⟩
abbrev cX8_where : ByteArray := prog_1_method_5_code
def yX8_where : MethodName := ⟨RX8, "where", "()I"⟩
abbrev cX8_start : ByteArray := prog_1_method_6_code
def yX8_start : MethodName := ⟨RX8, "start", "(IIII)Z"⟩
abbrev cX8_steps : ByteArray := prog_1_method_7_code
def yX8_steps : MethodName := ⟨RX8, "steps", "(I)I"⟩
abbrev cX8_run : ByteArray := prog_1_method_8_code
def yX8_run : MethodName := ⟨RX8, "run", "()I"⟩
abbrev cX8_now : ByteArray := prog_1_method_9_code
def yX8_now : MethodName := ⟨RX8, "now", "(I)I"⟩
abbrev cX8_counter : ByteArray := prog_1_method_10_code
def yX8_counter : MethodName := ⟨RX8, "counter", "(I)I"⟩
abbrev cX8_left : ByteArray := prog_1_method_11_code
def yX8_left : MethodName := ⟨RX8, "left", "(I)I"⟩
abbrev cX8_burnt : ByteArray := prog_1_method_12_code
def yX8_burnt : MethodName := ⟨RX8, "burnt", "()I"⟩
abbrev cX8_path : ByteArray := prog_1_method_13_code
def yX8_path : MethodName := ⟨RX8, "path", "(I)I"⟩
abbrev cX8_answer : ByteArray := prog_1_method_14_code
def yX8_answer : MethodName := ⟨RX8, "answer", "(IIII)I"⟩
abbrev cX8_parted : ByteArray := prog_1_method_15_code
def yX8_parted : MethodName := ⟨RX8, "parted", "(II)I"⟩
abbrev cX8_mark : ByteArray := prog_1_method_16_code
def yX8_mark : MethodName := ⟨RX8, "mark", "()I"⟩
abbrev cX8_back : ByteArray := prog_1_method_17_code
def yX8_back : MethodName := ⟨RX8, "back", "(I)Z"⟩
abbrev cX8_must : ByteArray := prog_1_method_18_code
def yX8_must : MethodName := ⟨RX8, "must", "(I)I"⟩
abbrev cX8_unburnt : ByteArray := prog_1_method_19_code
def yX8_unburnt : MethodName := ⟨RX8, "unburnt", "(I)I"⟩
abbrev cX8_whole : ByteArray := prog_1_method_20_code
def yX8_whole : MethodName := ⟨RX8, "whole", "(I)I"⟩
abbrev cX8_longest : ByteArray := prog_1_method_21_code
def yX8_longest : MethodName := ⟨RX8, "longest", "(I)I"⟩
abbrev cX8_longestAt : ByteArray := prog_1_method_22_code
def yX8_longestAt : MethodName := ⟨RX8, "longestAt", "(I)I"⟩
abbrev cX8_ends : ByteArray := prog_1_method_23_code
def yX8_ends : MethodName := ⟨RX8, "ends", "(II)I"⟩
abbrev cX8_wanted : ByteArray := prog_1_method_24_code
def yX8_wanted : MethodName := ⟨RX8, "wanted", "()I"⟩
abbrev cX8_come : ByteArray := prog_1_method_25_code
def yX8_come : MethodName := ⟨RX8, "come", "()I"⟩
abbrev cX8_even : ByteArray := prog_1_method_26_code
def yX8_even : MethodName := ⟨RX8, "even", "()I"⟩
abbrev cX8_degree : ByteArray := prog_1_method_27_code
def yX8_degree : MethodName := ⟨RX8, "degree", "(I)I"⟩
abbrev cX8_trails : ByteArray := prog_1_method_28_code
def yX8_trails : MethodName := ⟨RX8, "trails", "()I"⟩
abbrev cX8_trail : ByteArray := prog_1_method_29_code
def yX8_trail : MethodName := ⟨RX8, "trail", "(I)I"⟩
abbrev cX8_keys : ByteArray := prog_1_method_30_code
def yX8_keys : MethodName := ⟨RX8, "keys", "()I"⟩
abbrev cX8_seen : ByteArray := prog_1_method_31_code
def yX8_seen : MethodName := ⟨RX8, "seen", "(I)I"⟩
abbrev cX8_first : ByteArray := prog_1_method_32_code
def yX8_first : MethodName := ⟨RX8, "first", "(II)I"⟩
abbrev cX8_most : ByteArray := prog_1_method_33_code
def yX8_most : MethodName := ⟨RX8, "most", "(II)I"⟩
abbrev cX8_spare : ByteArray := prog_1_method_34_code
def yX8_spare : MethodName := ⟨RX8, "spare", "(II)I"⟩
abbrev cX8_greatestSpare : ByteArray := prog_1_method_35_code
def yX8_greatestSpare : MethodName := ⟨RX8, "greatestSpare", "(I)I"⟩
abbrev cX8_loop : ByteArray := prog_1_method_36_code
def yX8_loop : MethodName := ⟨RX8, "loop", "(II)I"⟩
abbrev cX8_alike : ByteArray := prog_1_method_37_code
def yX8_alike : MethodName := ⟨RX8, "alike", "(II)I"⟩
abbrev cX8_unfair : ByteArray := prog_1_method_38_code
def yX8_unfair : MethodName := ⟨RX8, "unfair", "(III)I"⟩
abbrev cX8_fold : ByteArray := prog_1_method_39_code
def yX8_fold : MethodName := ⟨RX8, "fold", "(I)I"⟩
abbrev cX8_same : ByteArray := prog_1_method_40_code
def yX8_same : MethodName := ⟨RX8, "same", "(I)I"⟩
abbrev cX8_isPair : ByteArray := prog_1_method_41_code
def yX8_isPair : MethodName := ⟨RX8, "isPair", "(II)Z"⟩
abbrev cX8_mergeFirstFair : ByteArray := prog_1_method_42_code
def yX8_mergeFirstFair : MethodName := ⟨RX8, "mergeFirstFair", "()Z"⟩
abbrev cX8_least : ByteArray := prog_1_method_43_code
def yX8_least : MethodName := ⟨RX8, "least", "(I)I"⟩
abbrev cX8_leastLine : ByteArray := prog_1_method_44_code
def yX8_leastLine : MethodName := ⟨RX8, "leastLine", "(II)I"⟩
abbrev cX8_isLaying : ByteArray := prog_1_method_45_code
def yX8_isLaying : MethodName := ⟨RX8, "isLaying", "(I)Z"⟩
abbrev cX8_line : ByteArray := prog_1_method_46_code
def yX8_line : MethodName := ⟨RX8, "line", "(II)I"⟩
abbrev cX8_led : ByteArray := prog_1_method_47_code
def yX8_led : MethodName := ⟨RX8, "led", "(I)I"⟩
abbrev cX8_size : ByteArray := prog_1_method_48_code
def yX8_size : MethodName := ⟨RX8, "size", "(I)I"⟩
abbrev cX8_trouble : ByteArray := prog_1_method_49_code
def yX8_trouble : MethodName := ⟨RX8, "trouble", "()I"⟩
abbrev cX8_refuse : ByteArray := prog_1_method_50_code
def yX8_refuse : MethodName := ⟨RX8, "refuse", "(I)I"⟩
abbrev cX8_grant : ByteArray := prog_1_method_51_code
def yX8_grant : MethodName := ⟨RX8, "grant", "(I)I"⟩
abbrev cX8_isLoaded : ByteArray := prog_1_method_52_code
def yX8_isLoaded : MethodName := ⟨RX8, "isLoaded", "()Z"⟩
abbrev cX8_mayStart : ByteArray := prog_1_method_53_code
def yX8_mayStart : MethodName := ⟨RX8, "mayStart", "(IIII)Z"⟩
abbrev cX8_surveyed : ByteArray := prog_1_method_54_code
def yX8_surveyed : MethodName := ⟨RX8, "surveyed", "(I)Z"⟩
abbrev cX8_isCount : ByteArray := prog_1_method_55_code
def yX8_isCount : MethodName := ⟨RX8, "isCount", "(I)Z"⟩
abbrev cX8_isInput : ByteArray := prog_1_method_56_code
def yX8_isInput : MethodName := ⟨RX8, "isInput", "(I)Z"⟩
abbrev cX8_forgetWhatWasFound : ByteArray := prog_1_method_57_code
def yX8_forgetWhatWasFound : MethodName := ⟨RX8, "forgetWhatWasFound", "()V"⟩
def RX9 : String := "BurntWaysModel"
def TX9 : u_T := fun k => match k with
  | 0 => ("BurntWaysModel", "thrown", "I", false)
  | 1 => ("BurntWaysModel", "tape", "[I", true)
  | 2 => ("BurntWaysModel", "taped", "I", false)
  | 3 => ("BurntWaysModel", "size", "I", false)
  | 4 => ("BurntWaysModel", "at", "I", false)
  | 5 => ("BurntWaysModel", "end", "I", false)
  | 6 => ("BurntWaysModel", "token", "I", false)
  | 7 => ("BurntWaysModel", "whole", "I", false)
  | 8 => ("BurntWaysModel", "nameSize", "I", false)
  | 9 => ("BurntWaysModel", "fault", "I", false)
  | 10 => ("BurntWaysModel", "place", "I", false)
  | 11 => ("BurntWaysModel", "trouble", "I", false)
  | 12 => ("BurntWaysModel", "letters", "[I", true)
  | 13 => ("BurntWaysModel", "failed", "Z", false)
  | 14 => ("BurntWaysModel", "hasProgram", "Z", false)
  | 15 => ("BurntWaysModel", "fresh", "[I", true)
  | 16 => ("BurntWaysModel", "now", "[I", true)
  | 17 => ("BurntWaysModel", "told", "[I", true)
  | 18 => ("BurntWaysModel", "tried", "[I", true)
  | 19 => ("BurntWaysModel", "kept", "[I", true)
  | 20 => ("BurntWaysModel", "names", "[I", true)
  | 21 => ("BurntWaysModel", "nameSizes", "[I", true)
  | 22 => ("BurntWaysModel", "newNames", "[I", true)
  | 23 => ("BurntWaysModel", "newSizes", "[I", true)
  | 24 => ("BurntWaysModel", "want", "[I", true)
  | 25 => ("BurntWaysModel", "newWant", "[I", true)
  | 26 => ("BurntWaysModel", "st", "[I", true)
  | 27 => ("BurntWaysModel", "other", "[I", true)
  | 28 => ("BurntWaysModel", "another", "[I", true)
  | 29 => ("BurntWaysModel", "keptRuns", "[I", true)
  | 30 => ("BurntWaysModel", "lines", "I", false)
  | 31 => ("BurntWaysModel", "newLines", "I", false)
  | 32 => ("BurntWaysModel", "wants", "I", false)
  | 33 => ("BurntWaysModel", "newWants", "I", false)
  | 34 => ("BurntWaysModel", "marks", "I", false)
  | 35 => ("BurntWaysModel", "longestOf", "I", false)
  | 36 => ("BurntWaysModel", "rest", "[I", true)
  | 37 => ("BurntWaysModel", "trail", "[I", true)
  | 38 => ("BurntWaysModel", "least", "[I", true)
  | _ => ("BurntWaysModel", "numbers", "[I", true)
def tyX9 : Nat → FieldType := fun k => match k with
  | 0 => .int
  | 1 => .array .int
  | 2 => .int
  | 3 => .int
  | 4 => .int
  | 5 => .int
  | 6 => .int
  | 7 => .int
  | 8 => .int
  | 9 => .int
  | 10 => .int
  | 11 => .int
  | 12 => .array .int
  | 13 => .boolean
  | 14 => .boolean
  | 15 => .array .int
  | 16 => .array .int
  | 17 => .array .int
  | 18 => .array .int
  | 19 => .array .int
  | 20 => .array .int
  | 21 => .array .int
  | 22 => .array .int
  | 23 => .array .int
  | 24 => .array .int
  | 25 => .array .int
  | 26 => .array .int
  | 27 => .array .int
  | 28 => .array .int
  | 29 => .array .int
  | 30 => .int
  | 31 => .int
  | 32 => .int
  | 33 => .int
  | 34 => .int
  | 35 => .int
  | 36 => .array .int
  | 37 => .array .int
  | 38 => .array .int
  | _ => .array .int
abbrev wsX90 : List Cond := u_ws RX9 TX9 40
theorem nmX9 : ∀ a, a < 40 → ∀ b, b < 40 → a ≠ b → (TX9 a).2.1 ≠ (TX9 b).2.1 := by decide +kernel
theorem tyX9_ok : ∀ k, k < 40 → parseFieldDescriptor (TX9 k).2.2.1 = some (tyX9 k) := by decide +kernel
abbrev cX9_init : ByteArray := prog_11_method_1_code
def yX9_init : MethodName := ⟨RX9, "<init>", "()V"⟩
abbrev cX9_thrown : ByteArray := prog_11_method_2_code
def yX9_thrown : MethodName := ⟨RX9, "thrown", "()I"⟩
abbrev cX9_good : ByteArray := prog_11_method_3_code
def yX9_good : MethodName := ⟨RX9, "good", "()V"⟩
abbrev cX9_no : ByteArray := prog_11_method_4_code
def yX9_no : MethodName := ⟨RX9, "no", "(I)I"⟩
abbrev cX9_isNot : ByteArray := prog_11_method_5_code
def yX9_isNot : MethodName := ⟨RX9, "isNot", "(I)Z"⟩
abbrev cX9_within : ByteArray := prog_11_method_6_code
def yX9_within : MethodName := ⟨RX9, "within", "(III)Z"⟩
abbrev cX9_has : ByteArray := prog_11_method_7_code
def yX9_has : MethodName := ⟨RX9, "has", "(II)Z"⟩
abbrev cX9_less : ByteArray := prog_11_method_8_code
def yX9_less : MethodName := ⟨RX9, "less", "(II)I"⟩
abbrev cX9_feed : ByteArray := prog_11_method_9_code
def yX9_feed : MethodName := ⟨RX9, "feed", "(IIIII)I"⟩
abbrev cX9_look : ByteArray := prog_11_method_10_code
def yX9_look : MethodName := ⟨RX9, "look", "(I)I"⟩
abbrev cX9_isSmall : ByteArray := prog_11_method_11_code
def yX9_isSmall : MethodName := ⟨RX9, "isSmall", "(I)Z"⟩
abbrev cX9_isDigit : ByteArray := prog_11_method_12_code
def yX9_isDigit : MethodName := ⟨RX9, "isDigit", "(I)Z"⟩
abbrev cX9_next : ByteArray := prog_11_method_13_code
def yX9_next : MethodName := ⟨RX9, "next", "()V"⟩
abbrev cX9_wrong : ByteArray := prog_11_method_14_code
def yX9_wrong : MethodName := ⟨RX9, "wrong", "(II)V"⟩
abbrev cX9_isWord : ByteArray := prog_11_method_15_code
def yX9_isWord : MethodName := ⟨RX9, "isWord", "(Ljava/lang/String;)Z"⟩
abbrev cX9_takes : ByteArray := prog_11_method_16_code
def yX9_takes : MethodName := ⟨RX9, "takes", "(Ljava/lang/String;)Z"⟩
abbrev cX9_pass : ByteArray := prog_11_method_17_code
def yX9_pass : MethodName := ⟨RX9, "pass", "(Ljava/lang/String;)V"⟩
abbrev cX9_isCounter : ByteArray := prog_11_method_18_code
def yX9_isCounter : MethodName := ⟨RX9, "isCounter", "()Z"⟩
abbrev cX9_mustName : ByteArray := prog_11_method_19_code
def yX9_mustName : MethodName := ⟨RX9, "mustName", "()V"⟩
abbrev cX9_find : ByteArray := prog_11_method_20_code
def yX9_find : MethodName := ⟨RX9, "find", "()I"⟩
abbrev cX9_lineHere : ByteArray := prog_11_method_21_code
def yX9_lineHere : MethodName := ⟨RX9, "lineHere", "()I"⟩
abbrev cX9_lineName : ByteArray := prog_11_method_22_code
def yX9_lineName : MethodName := ⟨RX9, "lineName", "()I"⟩
abbrev cX9_number : ByteArray := prog_11_method_23_code
def yX9_number : MethodName := ⟨RX9, "number", "(II)I"⟩
abbrev cX9_counterName : ByteArray := prog_11_method_24_code
def yX9_counterName : MethodName := ⟨RX9, "counterName", "()I"⟩
abbrev cX9_comma : ByteArray := prog_11_method_25_code
def yX9_comma : MethodName := ⟨RX9, "comma", "()Z"⟩
abbrev cX9_mustComma : ByteArray := prog_11_method_26_code
def yX9_mustComma : MethodName := ⟨RX9, "mustComma", "()V"⟩
abbrev cX9_program : ByteArray := prog_11_method_27_code
def yX9_program : MethodName := ⟨RX9, "program", "(I)I"⟩
abbrev cX9_copy : ByteArray := prog_11_method_28_code
def yX9_copy : MethodName := ⟨RX9, "copy", "([I[II)V"⟩
abbrev cX9_readLine : ByteArray := prog_11_method_29_code
def yX9_readLine : MethodName := ⟨RX9, "readLine", "()V"⟩
abbrev cX9_programLine : ByteArray := prog_11_method_30_code
def yX9_programLine : MethodName := ⟨RX9, "programLine", "()V"⟩
abbrev cX9_lineLine : ByteArray := prog_11_method_31_code
def yX9_lineLine : MethodName := ⟨RX9, "lineLine", "()V"⟩
abbrev cX9_readAct : ByteArray := prog_11_method_32_code
def yX9_readAct : MethodName := ⟨RX9, "readAct", "(II)V"⟩
abbrev cX9_readGoal : ByteArray := prog_11_method_33_code
def yX9_readGoal : MethodName := ⟨RX9, "readGoal", "(I)V"⟩
abbrev cX9_readWay : ByteArray := prog_11_method_34_code
def yX9_readWay : MethodName := ⟨RX9, "readWay", "(I)V"⟩
abbrev cX9_wantLine : ByteArray := prog_11_method_35_code
def yX9_wantLine : MethodName := ⟨RX9, "wantLine", "()V"⟩
abbrev cX9_fault : ByteArray := prog_11_method_36_code
def yX9_fault : MethodName := ⟨RX9, "fault", "()I"⟩
abbrev cX9_where : ByteArray := prog_11_method_37_code
def yX9_where : MethodName := ⟨RX9, "where", "()I"⟩
abbrev cX9_isTold : ByteArray := prog_11_method_38_code
def yX9_isTold : MethodName := ⟨RX9, "isTold", "([II)Z"⟩
abbrev cX9_begins : ByteArray := prog_11_method_39_code
def yX9_begins : MethodName := ⟨RX9, "begins", "([I[IIIII)V"⟩
abbrev cX9_act : ByteArray := prog_11_method_40_code
def yX9_act : MethodName := ⟨RX9, "act", "([I[III)V"⟩
abbrev cX9_step : ByteArray := prog_11_method_41_code
def yX9_step : MethodName := ⟨RX9, "step", "([I[I)V"⟩
abbrev cX9_runs : ByteArray := prog_11_method_42_code
def yX9_runs : MethodName := ⟨RX9, "runs", "([I[I)V"⟩
abbrev cX9_isCount : ByteArray := prog_11_method_43_code
def yX9_isCount : MethodName := ⟨RX9, "isCount", "(I)Z"⟩
abbrev cX9_countsWhy : ByteArray := prog_11_method_44_code
def yX9_countsWhy : MethodName := ⟨RX9, "countsWhy", "(IIII)I"⟩
abbrev cX9_start : ByteArray := prog_11_method_45_code
def yX9_start : MethodName := ⟨RX9, "start", "(IIII)Z"⟩
abbrev cX9_steps : ByteArray := prog_11_method_46_code
def yX9_steps : MethodName := ⟨RX9, "steps", "(I)I"⟩
abbrev cX9_run : ByteArray := prog_11_method_47_code
def yX9_run : MethodName := ⟨RX9, "run", "()I"⟩
abbrev cX9_now : ByteArray := prog_11_method_48_code
def yX9_now : MethodName := ⟨RX9, "now", "(I)I"⟩
abbrev cX9_counter : ByteArray := prog_11_method_49_code
def yX9_counter : MethodName := ⟨RX9, "counter", "(I)I"⟩
abbrev cX9_laid : ByteArray := prog_11_method_50_code
def yX9_laid : MethodName := ⟨RX9, "laid", "([II)I"⟩
abbrev cX9_isWay : ByteArray := prog_11_method_51_code
def yX9_isWay : MethodName := ⟨RX9, "isWay", "(I)Z"⟩
abbrev cX9_left : ByteArray := prog_11_method_52_code
def yX9_left : MethodName := ⟨RX9, "left", "(I)I"⟩
abbrev cX9_burntIn : ByteArray := prog_11_method_53_code
def yX9_burntIn : MethodName := ⟨RX9, "burntIn", "([I)I"⟩
abbrev cX9_allWays : ByteArray := prog_11_method_54_code
def yX9_allWays : MethodName := ⟨RX9, "allWays", "()I"⟩
abbrev cX9_burnt : ByteArray := prog_11_method_55_code
def yX9_burnt : MethodName := ⟨RX9, "burnt", "()I"⟩
abbrev cX9_path : ByteArray := prog_11_method_56_code
def yX9_path : MethodName := ⟨RX9, "path", "(I)I"⟩
abbrev cX9_answer : ByteArray := prog_11_method_57_code
def yX9_answer : MethodName := ⟨RX9, "answer", "(IIII)I"⟩
abbrev cX9_beginsBy : ByteArray := prog_11_method_58_code
def yX9_beginsBy : MethodName := ⟨RX9, "beginsBy", "([I[III)V"⟩
abbrev cX9_inputs : ByteArray := prog_11_method_59_code
def yX9_inputs : MethodName := ⟨RX9, "inputs", "(I)I"⟩
abbrev cX9_parted : ByteArray := prog_11_method_60_code
def yX9_parted : MethodName := ⟨RX9, "parted", "(II)I"⟩
abbrev cX9_mark : ByteArray := prog_11_method_61_code
def yX9_mark : MethodName := ⟨RX9, "mark", "()I"⟩
abbrev cX9_back : ByteArray := prog_11_method_62_code
def yX9_back : MethodName := ⟨RX9, "back", "(I)Z"⟩
abbrev cX9_inputWhy : ByteArray := prog_11_method_63_code
def yX9_inputWhy : MethodName := ⟨RX9, "inputWhy", "(I)I"⟩
abbrev cX9_runOf : ByteArray := prog_11_method_64_code
def yX9_runOf : MethodName := ⟨RX9, "runOf", "([III)V"⟩
abbrev cX9_must : ByteArray := prog_11_method_65_code
def yX9_must : MethodName := ⟨RX9, "must", "(I)I"⟩
abbrev cX9_unburnt : ByteArray := prog_11_method_66_code
def yX9_unburnt : MethodName := ⟨RX9, "unburnt", "(I)I"⟩
abbrev cX9_whole : ByteArray := prog_11_method_67_code
def yX9_whole : MethodName := ⟨RX9, "whole", "(I)I"⟩
abbrev cX9_findLongest : ByteArray := prog_11_method_68_code
def yX9_findLongest : MethodName := ⟨RX9, "findLongest", "(I)I"⟩
abbrev cX9_longest : ByteArray := prog_11_method_69_code
def yX9_longest : MethodName := ⟨RX9, "longest", "(I)I"⟩
abbrev cX9_longestAt : ByteArray := prog_11_method_70_code
def yX9_longestAt : MethodName := ⟨RX9, "longestAt", "(I)I"⟩
abbrev cX9_ends : ByteArray := prog_11_method_71_code
def yX9_ends : MethodName := ⟨RX9, "ends", "(II)I"⟩
abbrev cX9_answers : ByteArray := prog_11_method_72_code
def yX9_answers : MethodName := ⟨RX9, "answers", "([II)Z"⟩
abbrev cX9_wanted : ByteArray := prog_11_method_73_code
def yX9_wanted : MethodName := ⟨RX9, "wanted", "()I"⟩
abbrev cX9_goesTo : ByteArray := prog_11_method_74_code
def yX9_goesTo : MethodName := ⟨RX9, "goesTo", "([II)I"⟩
abbrev cX9_comeBut : ByteArray := prog_11_method_75_code
def yX9_comeBut : MethodName := ⟨RX9, "comeBut", "(I)I"⟩
abbrev cX9_come : ByteArray := prog_11_method_76_code
def yX9_come : MethodName := ⟨RX9, "come", "()I"⟩
abbrev cX9_isEven : ByteArray := prog_11_method_77_code
def yX9_isEven : MethodName := ⟨RX9, "isEven", "(I)Z"⟩
abbrev cX9_layRest : ByteArray := prog_11_method_78_code
def yX9_layRest : MethodName := ⟨RX9, "layRest", "()V"⟩
abbrev cX9_even : ByteArray := prog_11_method_79_code
def yX9_even : MethodName := ⟨RX9, "even", "()I"⟩
abbrev cX9_degree : ByteArray := prog_11_method_80_code
def yX9_degree : MethodName := ⟨RX9, "degree", "(I)I"⟩
abbrev cX9_goTrail : ByteArray := prog_11_method_81_code
def yX9_goTrail : MethodName := ⟨RX9, "goTrail", "()I"⟩
abbrev cX9_trails : ByteArray := prog_11_method_82_code
def yX9_trails : MethodName := ⟨RX9, "trails", "()I"⟩
abbrev cX9_trail : ByteArray := prog_11_method_83_code
def yX9_trail : MethodName := ⟨RX9, "trail", "(I)I"⟩
abbrev cX9_keys : ByteArray := prog_11_method_84_code
def yX9_keys : MethodName := ⟨RX9, "keys", "()I"⟩
abbrev cX9_linesOf : ByteArray := prog_11_method_85_code
def yX9_linesOf : MethodName := ⟨RX9, "linesOf", "(II)I"⟩
abbrev cX9_seen : ByteArray := prog_11_method_86_code
def yX9_seen : MethodName := ⟨RX9, "seen", "(I)I"⟩
abbrev cX9_first : ByteArray := prog_11_method_87_code
def yX9_first : MethodName := ⟨RX9, "first", "(II)I"⟩
abbrev cX9_wayWhy : ByteArray := prog_11_method_88_code
def yX9_wayWhy : MethodName := ⟨RX9, "wayWhy", "(II)I"⟩
abbrev cX9_most : ByteArray := prog_11_method_89_code
def yX9_most : MethodName := ⟨RX9, "most", "(II)I"⟩
abbrev cX9_unlike : ByteArray := prog_11_method_90_code
def yX9_unlike : MethodName := ⟨RX9, "unlike", "([I[II)I"⟩
abbrev cX9_spare : ByteArray := prog_11_method_91_code
def yX9_spare : MethodName := ⟨RX9, "spare", "(II)I"⟩
abbrev cX9_loop : ByteArray := prog_11_method_92_code
def yX9_loop : MethodName := ⟨RX9, "loop", "(II)I"⟩
abbrev cX9_areAlike : ByteArray := prog_11_method_93_code
def yX9_areAlike : MethodName := ⟨RX9, "areAlike", "([III)Z"⟩
abbrev cX9_arePair : ByteArray := prog_11_method_94_code
def yX9_arePair : MethodName := ⟨RX9, "arePair", "(II)Z"⟩
abbrev cX9_alike : ByteArray := prog_11_method_95_code
def yX9_alike : MethodName := ⟨RX9, "alike", "(II)I"⟩
abbrev cX9_merge : ByteArray := prog_11_method_96_code
def yX9_merge : MethodName := ⟨RX9, "merge", "([III[I)V"⟩
abbrev cX9_unfair : ByteArray := prog_11_method_97_code
def yX9_unfair : MethodName := ⟨RX9, "unfair", "(III)I"⟩
abbrev cX9_foldsOne : ByteArray := prog_11_method_98_code
def yX9_foldsOne : MethodName := ⟨RX9, "foldsOne", "(I)Z"⟩
abbrev cX9_fold : ByteArray := prog_11_method_99_code
def yX9_fold : MethodName := ⟨RX9, "fold", "(I)I"⟩
abbrev cX9_same : ByteArray := prog_11_method_100_code
def yX9_same : MethodName := ⟨RX9, "same", "(I)I"⟩
abbrev cX9_layLine : ByteArray := prog_11_method_101_code
def yX9_layLine : MethodName := ⟨RX9, "layLine", "(IIII)V"⟩
abbrev cX9_answersAll : ByteArray := prog_11_method_102_code
def yX9_answersAll : MethodName := ⟨RX9, "answersAll", "()Z"⟩
abbrev cX9_findLeast : ByteArray := prog_11_method_103_code
def yX9_findLeast : MethodName := ⟨RX9, "findLeast", "(I)I"⟩
abbrev cX9_leastWhy : ByteArray := prog_11_method_104_code
def yX9_leastWhy : MethodName := ⟨RX9, "leastWhy", "(I)I"⟩
abbrev cX9_least : ByteArray := prog_11_method_105_code
def yX9_least : MethodName := ⟨RX9, "least", "(I)I"⟩
abbrev cX9_leastLine : ByteArray := prog_11_method_106_code
def yX9_leastLine : MethodName := ⟨RX9, "leastLine", "(II)I"⟩
abbrev cX9_line : ByteArray := prog_11_method_107_code
def yX9_line : MethodName := ⟨RX9, "line", "(II)I"⟩
abbrev cX9_led : ByteArray := prog_11_method_108_code
def yX9_led : MethodName := ⟨RX9, "led", "(I)I"⟩
abbrev cX9_toldLines : ByteArray := prog_11_method_109_code
def yX9_toldLines : MethodName := ⟨RX9, "toldLines", "()I"⟩
abbrev cX9_size : ByteArray := prog_11_method_110_code
def yX9_size : MethodName := ⟨RX9, "size", "(I)I"⟩
abbrev cX9_trouble : ByteArray := prog_11_method_111_code
def yX9_trouble : MethodName := ⟨RX9, "trouble", "()I"⟩
def RJx145de : String := "java/io/Serializable"
def TJx145de : u_T := fun k => match k with
  | _ => ("", "", "", false)
def tyJx145de : Nat → FieldType := fun k => match k with
  | _ => .int
def RJx9f9b0 : String := "java/lang/CharSequence"
def TJx9f9b0 : u_T := fun k => match k with
  | _ => ("", "", "", false)
def tyJx9f9b0 : Nat → FieldType := fun k => match k with
  | _ => .int
def RJxb160c : String := "java/lang/Comparable"
def TJxb160c : u_T := fun k => match k with
  | _ => ("", "", "", false)
def tyJxb160c : Nat → FieldType := fun k => match k with
  | _ => .int
def RJ6 : String := "java/lang/Integer"
def TJ6 : u_T := fun k => match k with
  | _ => ("", "", "", false)
def tyJ6 : Nat → FieldType := fun k => match k with
  | _ => .int
abbrev cJ6_bitCount_0f7a4 : ByteArray := prog_16_method_49_code
def yJ6_bitCount_0f7a4 : MethodName := ⟨RJ6, "bitCount", "(I)I"⟩
def RJ9 : String := "java/lang/Math"
def TJ9 : u_T := fun k => match k with
  | _ => ("", "", "", false)
def tyJ9 : Nat → FieldType := fun k => match k with
  | _ => .int
abbrev cJ9_max_7cf53 : ByteArray := prog_17_method_65_code
def yJ9_max_7cf53 : MethodName := ⟨RJ9, "max", "(II)I"⟩
abbrev cJ9_min_7cf53 : ByteArray := prog_17_method_69_code
def yJ9_min_7cf53 : MethodName := ⟨RJ9, "min", "(II)I"⟩
def RJ0 : String := "java/lang/String"
def TJ0 : u_T := fun k => match k with
  | _ => ("", "", "", false)
def tyJ0 : Nat → FieldType := fun k => match k with
  | _ => .int
abbrev cJ0_length_8abf5 : ByteArray := prog_19_method_54_code
def yJ0_length_8abf5 : MethodName := ⟨RJ0, "length", "()I"⟩
abbrev cJ0_charAt_5068e : ByteArray := prog_19_method_56_code
def yJ0_charAt_5068e : MethodName := ⟨RJ0, "charAt", "(I)C"⟩
abbrev cJ0_coder_7d493 : ByteArray := prog_19_method_152_code
def yJ0_coder_7d493 : MethodName := ⟨RJ0, "coder", "()B"⟩
abbrev cJ0_isLatin1_aae02 : ByteArray := prog_19_method_154_code
def yJ0_isLatin1_aae02 : MethodName := ⟨RJ0, "isLatin1", "()Z"⟩
abbrev cJ0_checkIndex_df160 : ByteArray := prog_19_method_155_code
def yJ0_checkIndex_df160 : MethodName := ⟨RJ0, "checkIndex", "(II)V"⟩
def RJ1 : String := "java/lang/StringLatin1"
def TJ1 : u_T := fun k => match k with
  | _ => ("", "", "", false)
def tyJ1 : Nat → FieldType := fun k => match k with
  | _ => .int
abbrev cJ1_charAt_3b067 : ByteArray := prog_20_method_2_code
def yJ1_charAt_3b067 : MethodName := ⟨RJ1, "charAt", "([BI)C"⟩
def RJ2 : String := "java/lang/StringUTF16"
def TJ2 : u_T := fun k => match k with
  | _ => ("", "", "", false)
def tyJ2 : Nat → FieldType := fun k => match k with
  | _ => .int
abbrev cJ2_getChar_3b067 : ByteArray := prog_21_method_5_code
def yJ2_getChar_3b067 : MethodName := ⟨RJ2, "getChar", "([BI)C"⟩
abbrev cJ2_length_9d52b : ByteArray := prog_21_method_6_code
def yJ2_length_9d52b : MethodName := ⟨RJ2, "length", "([B)I"⟩
abbrev cJ2_charAt_3b067 : ByteArray := prog_21_method_83_code
def yJ2_charAt_3b067 : MethodName := ⟨RJ2, "charAt", "([BI)C"⟩
abbrev cJ2_checkIndex_2214a : ByteArray := prog_21_method_91_code
def yJ2_checkIndex_2214a : MethodName := ⟨RJ2, "checkIndex", "(I[B)V"⟩
def RJ10 : String := "java/lang/System"
def TJ10 : u_T := fun k => match k with
  | _ => ("", "", "", false)
def tyJ10 : Nat → FieldType := fun k => match k with
  | _ => .int
def RJxfd54e : String := "java/lang/constant/Constable"
def TJxfd54e : u_T := fun k => match k with
  | _ => ("", "", "", false)
def tyJxfd54e : Nat → FieldType := fun k => match k with
  | _ => .int
def RJx3cf43 : String := "java/lang/constant/ConstantDesc"
def TJx3cf43 : u_T := fun k => match k with
  | _ => ("", "", "", false)
def tyJx3cf43 : Nat → FieldType := fun k => match k with
  | _ => .int
def RJ7 : String := "java/util/Arrays"
def TJ7 : u_T := fun k => match k with
  | _ => ("", "", "", false)
def tyJ7 : Nat → FieldType := fun k => match k with
  | _ => .int
abbrev cJ7_fill_53178 : ByteArray := prog_26_method_103_code
def yJ7_fill_53178 : MethodName := ⟨RJ7, "fill", "([II)V"⟩
def RJ3 : String := "jdk/internal/util/Preconditions"
def TJ3 : u_T := fun k => match k with
  | _ => ("", "", "", false)
def tyJ3 : Nat → FieldType := fun k => match k with
  | _ => .int
abbrev cJ3_checkIndex_8e157 : ByteArray := prog_28_method_11_code
def yJ3_checkIndex_8e157 : MethodName := ⟨RJ3, "checkIndex", "(IILjava/util/function/BiFunction;)I"⟩
def RL : String := "BurntWaysLaw"
abbrev cL_led : ByteArray := method_3_code
def yL_led : MethodName := ⟨RL, "led", "(LBurntWays;I[J)I"⟩
abbrev cL_law : ByteArray := code
def yL_law : MethodName := ⟨RL, "law", "([I)Z"⟩
abbrev vwCl : List vw_C := [(RX0, TX0, 7), (RX1, TX1, 3), (RX2, TX2, 9), (RX3, TX3, 14), (RX4, TX4, 13), (RX5, TX5, 4), (RX6, TX6, 10), (RX7, TX7, 2), (RX8, TX8, 14), (RX9, TX9, 40)]
end
section
/-! the shape of all contracts here: a world of cells before, a world of cells behind, one table of array kinds, an extra word E on the state -/
def bw_PB (E : (Nat → Prop) → State → Prop) (G : va_G) (kt : List (ClassId × FieldType)) (w : va_W) (sz : Nat) (U : State) : Prop := U.heap.size = sz ∧ va_P G vwCl w U.heap ∧ va_K G vwCl kt U ∧ va_D (fun _ => True) w ∧ E (va_A w sz) U
def bw_QB (G : va_G) (A : Nat → Prop) (w : va_W) (t : State) : Prop := va_P G vwCl w t.heap ∧ va_D A w
def bw_E0 : (Nat → Prop) → State → Prop := fun _ _ => True
/-- what E must bear: the start of a call -/
def bw_Eb (E : (Nat → Prop) → State → Prop) : Prop := ∀ (A : Nat → Prop) (a : Array Value) (U : State) (g : JFrame) (mk : MethodId), E A U → E A (U.calling g mk a)
theorem bw_Eb0 : bw_Eb bw_E0 := fun _ _ _ _ _ _ => trivial
def bw_Ci {S : Type} (l : Launch) (y : MethodName) (ws : List Cond) (rm : Room) (E : (Nat → Prop) → State → Prop) (G : va_G) (kt : List (ClassId × FieldType)) (av : List Value) (w : va_W) (post : Int32 → S → Prop) (w' : S → va_W) : Prop :=
  ∀ sz : Nat, Met l y ws rm (va_Pc av (bw_PB E G kt w sz)) (va_Qi post (fun u t => bw_QB G (va_A w sz) (w' u) t) (va_A w sz)) rm.cells rm.slots (va_A w sz)
def bw_Cv {S : Type} (l : Launch) (y : MethodName) (ws : List Cond) (rm : Room) (E : (Nat → Prop) → State → Prop) (G : va_G) (kt : List (ClassId × FieldType)) (av : List Value) (w : va_W) (post : S → Prop) (w' : S → va_W) : Prop :=
  ∀ sz : Nat, Met l y ws rm (va_Pc av (bw_PB E G kt w sz)) (va_Qv post (fun u t => bw_QB G (va_A w sz) (w' u) t) (va_A w sz)) rm.cells rm.slots (va_A w sz)
theorem bw_blind {E : (Nat → Prop) → State → Prop} (hE : bw_Eb E) {G : va_G} {kt : List (ClassId × FieldType)} {w : va_W} {sz : Nat} {av : List Value} : FrameBlind (va_Pc av (bw_PB E G kt w sz)) := by
  intro a U g mk q
  obtain ⟨q0, q1, qP, qK, qD, qE⟩ := q
  exact ⟨q0, q1, qP, va_K.moved (u := U) (U := U.calling g mk a) (Vm.Alike.refl U.vm) qK, qD, hE _ _ _ _ _ qE⟩
/-- what a walk of a body is given -/
def bw_Bd (l : Launch) (y : MethodName) (ws : List Cond) (rm : Room) (E : (Nat → Prop) → State → Prop) (G : va_G) (kt : List (ClassId × FieldType)) (av : List Value) (w : va_W) (cc : ByteArray) (maxL : Nat) (Rt : Program → Env → State → MethodId → List Frame → Method → Code → (Nat → Prop) → (State → Prop) → Prop) : Prop :=
  ∀ (p : Program) (e : Env) (s : State) (m : MethodId) (below : List Frame) (meth : Method) (c : Code) (A : Nat → Prop) (Q : State → Prop), p.tables.exec = Jvm.exec → c.code = cc → c.maxLocals = maxL → (∀ x ∈ ws, x.before av.toArray s = true) → s.vm.findClass y.cls = some m.cls → meth.name = y.name → va_K G vwCl kt s → (∀ q : Nat, s.heap.size ≤ q → A q) → va_S A s.heap s.heap [] → va_P G vwCl w s.heap → va_D A w → E A s →
    Rt p e s m below meth c A Q → ∀ ls : Array Slot, lv_has ls maxL (lv_args 0 av) → W p l e rm s m av.toArray below meth c s.heap [] 0 0 Q (F0 m 0 ls [])
theorem bw_Ci.of {S : Type} {l : Launch} {y : MethodName} {ws ws' : List Cond} {rm : Room} {E : (Nat → Prop) → State → Prop} {G : va_G} {kt : List (ClassId × FieldType)} {av : List Value} {w : va_W} {post : Int32 → S → Prop} {w' : S → va_W} {cc : ByteArray} {maxL : Nat} {ty : FieldType}
    (hy : plainName y.cls = true) (hw : ws = Cond.code y cc maxL (some ty) :: ws') (hlen : (lg_sl av).length ≤ maxL)
    (body : bw_Bd l y ws rm E G kt av w cc maxL (fun p e s m below meth c A Q => ∀ (v : Int32) (u : S) (H : Heap) (locs : List Loc) (k n pc : Nat) (ls : Array Slot), narrow ty (.int v) = .int v → post v u → va_P G vwCl (w' u) H → va_D A (w' u) → va_S A s.heap H locs → k ≤ rm.cells → n ≤ rm.slots → decode cc pc = .ok (.ireturn, 1) → W p l e rm s m av.toArray below meth c H locs k n Q (F0 m pc ls [.int v]))) : bw_Ci l y ws rm E G kt av w post w' := by
  intro sz
  refine Met.ofW (cc := cc) (maxL := maxL) (ret := some ty) hy hw ?_
  intro p e s m args below meth c s₁ B hml hv
  obtain ⟨rfl, hsz, hP, hK, hD0, hE⟩ := hv
  have hx := B.exec
  have hb := B.bytes
  have hr := B.returns
  have hts := atoms_spec (ws := ws) B.pre
  have hown : s.vm.findClass y.cls = some m.cls := findClass_of_methodNamed B.named
  have hlocks := B.notSynchronized
  have hin : meth.name = y.name := (name_of_methodNamed B.named B.method).1
  subst hsz
  have hD := hD0.self (sz := s.heap.size)
  have hA : ∀ q : Nat, s.heap.size ≤ q → va_A w s.heap.size q := fun q h => Or.inr h
  have hl := lv_entry av (n := maxL) hlen
  rw [lg_entry_eq]
  refine body p e s m below meth c (va_A w s.heap.size) _ hx hb hml hts hown hin hK hA va_S.rf hP hD hE ?_ _ hl
  intro v u H locs k n pc ls hn hp hP hD hS hk hn2 hd
  refine W.widen hk hn2 ?_
  exact W.zret hx hb hr hn (fun t ht hW => ⟨⟨v, u, rfl, hp, by rw [ht]; exact hP, hD⟩, hS.F ht⟩) hS.2.2 hd hlocks
theorem bw_Cv.of {S : Type} {l : Launch} {y : MethodName} {ws ws' : List Cond} {rm : Room} {E : (Nat → Prop) → State → Prop} {G : va_G} {kt : List (ClassId × FieldType)} {av : List Value} {w : va_W} {post : S → Prop} {w' : S → va_W} {cc : ByteArray} {maxL : Nat}
    (hy : plainName y.cls = true) (hw : ws = Cond.code y cc maxL none :: ws') (hlen : (lg_sl av).length ≤ maxL)
    (body : bw_Bd l y ws rm E G kt av w cc maxL (fun p e s m below meth c A Q => ∀ (u : S) (H : Heap) (locs : List Loc) (k n pc : Nat) (ls : Array Slot), post u → va_P G vwCl (w' u) H → va_D A (w' u) → va_S A s.heap H locs → k ≤ rm.cells → n ≤ rm.slots → decode cc pc = .ok (.return_, 1) → W p l e rm s m av.toArray below meth c H locs k n Q (F0 m pc ls []))) : bw_Cv l y ws rm E G kt av w post w' := by
  intro sz
  refine Met.ofW (cc := cc) (maxL := maxL) (ret := none) hy hw ?_
  intro p e s m args below meth c s₁ B hml hv
  obtain ⟨rfl, hsz, hP, hK, hD0, hE⟩ := hv
  have hx := B.exec
  have hb := B.bytes
  have hr := B.returns
  have hts := atoms_spec (ws := ws) B.pre
  have hown : s.vm.findClass y.cls = some m.cls := findClass_of_methodNamed B.named
  have hlocks := B.notSynchronized
  have hin : meth.name = y.name := (name_of_methodNamed B.named B.method).1
  subst hsz
  have hD := hD0.self (sz := s.heap.size)
  have hA : ∀ q : Nat, s.heap.size ≤ q → va_A w s.heap.size q := fun q h => Or.inr h
  have hl := lv_entry av (n := maxL) hlen
  rw [lg_entry_eq]
  refine body p e s m below meth c (va_A w s.heap.size) _ hx hb hml hts hown hin hK hA va_S.rf hP hD hE ?_ _ hl
  intro u H locs k n pc ls hp hP hD hS hk hn2 hd
  refine W.widen hk hn2 ?_
  exact W.vret hx hb hr (fun t ht hW => ⟨⟨u, rfl, hp, by rw [ht]; exact hP, hD⟩, hS.F ht⟩) hS.2.2 hd hlocks
section BWC
variable {p : Program} {l : Launch} {e : Env} {R : Room} {s : State} {m : MethodId} {args : Array Value} {below : List Frame} {meth : Method} {c : Code} {H : Heap} {locs : List Loc} {cells slots : Nat} {Q : State → Prop}
variable {cc : ByteArray} {nL : Nat} {Ts : List Cond} {own : String} {G : va_G} {kt : List (ClassId × FieldType)} {w0 wc wr : va_W} {A : Nat → Prop} {S : Type} {y : MethodName} {ws ws' : List Cond} {rm : Room} {E : (Nat → Prop) → State → Prop} {As rest stk : List Value} {b : Addr} {w' : S → va_W} {bytes : ByteArray} {maxL index pc : Nat} {ret : Option FieldType} {C : String} {ls : Array Slot} {fs : List Value} {q : vw_C}
theorem bw_Cv.hp {av : List Value} (hEb : bw_Eb E) (hK : va_K G vwCl kt s) (hPc : va_P G vwCl wc H) (hDc : va_D A wc) (hE : ∀ U : State, U.heap = H → s.WarmedH U.vm → E (va_A wc H.size) U) : PreS s H (va_Pc av (bw_PB E G kt wc H.size)) av :=
  ⟨bw_blind hEb, fun U hU hW => ⟨rfl, by rw [hU], by rw [hU]; exact hPc, va_K.moved hW.alike hK, hDc.weaken (fun _ _ _ _ => trivial), hE U hU hW⟩⟩
theorem bw_run_i {post : Int32 → S → Prop} {a : Array Value} (hP : va_P G vwCl w0 H) (hD : va_D A w0) (hS : va_S A s.heap H locs) (hA : ∀ q : Nat, s.heap.size ≤ q → A q) (isC isR : List Nat) (hC : isC.map (fun i => w0[i]?) = wc.map some) (hR : isR.map (fun i => w0[i]?) = wr.map some) (hnd : va_nd isR = true) (hdis : ∀ i ∈ isR, i ∉ isC)
    (hr : va_Run p l e R s m args below meth c H locs cells slots rm.cells rm.slots (F0 m pc ls stk) rest (va_Qi post (fun u t => bw_QB G (va_A wc H.size) (w' u) t) (va_A wc H.size) a) (va_A wc H.size))
    (kk : ∀ (r : Int32) (u : S) (H1 : Heap) (locs1 : List Loc), post r u → va_P G vwCl (wr ++ w' u) H1 → va_D A (wr ++ w' u) → va_S A s.heap H1 locs1 → W p l e R s m args below meth c H1 locs1 (cells + rm.cells) (slots + rm.slots) Q (F0 m (pc + 3) ls (.int r :: rest))) : W p l e R s m args below meth c H locs cells slots Q (F0 m pc ls stk) := by
  have hF := va_free (wc := wc) hD hS hA isC hC
  refine va_calli hr hS (fun q _ h => hF q h) hF (fun r u t H1 locs1 ht hvm hw hB hz hk hS1 => ?_)
  obtain ⟨hP1, hD1⟩ := hB
  rw [ht] at hP1
  obtain ⟨hP2, hD2⟩ := va_join (wr := wr) (w1 := w' u) hP hD isC isR hC hR hnd hdis hk hF hP1 hD1
  exact kk r u H1 locs1 hw hP2 hD2 hS1
theorem bw_run_v {post : S → Prop} {a : Array Value} (hP : va_P G vwCl w0 H) (hD : va_D A w0) (hS : va_S A s.heap H locs) (hA : ∀ q : Nat, s.heap.size ≤ q → A q) (isC isR : List Nat) (hC : isC.map (fun i => w0[i]?) = wc.map some) (hR : isR.map (fun i => w0[i]?) = wr.map some) (hnd : va_nd isR = true) (hdis : ∀ i ∈ isR, i ∉ isC)
    (hr : va_Run p l e R s m args below meth c H locs cells slots rm.cells rm.slots (F0 m pc ls stk) rest (va_Qv post (fun u t => bw_QB G (va_A wc H.size) (w' u) t) (va_A wc H.size) a) (va_A wc H.size))
    (kk : ∀ (u : S) (H1 : Heap) (locs1 : List Loc), post u → va_P G vwCl (wr ++ w' u) H1 → va_D A (wr ++ w' u) → va_S A s.heap H1 locs1 → W p l e R s m args below meth c H1 locs1 (cells + rm.cells) (slots + rm.slots) Q (F0 m (pc + 3) ls rest)) : W p l e R s m args below meth c H locs cells slots Q (F0 m pc ls stk) := by
  have hF := va_free (wc := wc) hD hS hA isC hC
  refine va_callv hr hS (fun q _ h => hF q h) hF (fun u t H1 locs1 ht hvm hw hB hz hk hS1 => ?_)
  obtain ⟨hP1, hD1⟩ := hB
  rw [ht] at hP1
  obtain ⟨hP2, hD2⟩ := va_join (wr := wr) (w1 := w' u) hP hD isC isR hC hR hnd hdis hk hF hP1 hD1
  exact kk u H1 locs1 hw hP2 hD2 hS1
theorem bw_subP {isC : List Nat} (hP : va_P G vwCl w0 H) (hC : isC.map (fun i => w0[i]?) = wc.map some) : va_P G vwCl wc H := by
  intro k q hq
  have h1 : (isC.map (fun i => w0[i]?))[k]? = some (some q) := by rw [hC, List.getElem?_map, hq]; rfl
  rw [List.getElem?_map] at h1
  cases hi : isC[k]? with
  | none => rw [hi] at h1; cases h1
  | some i => rw [hi] at h1; exact hP i q (Option.some.inj h1)
/-- a call of an instance method, with an int for an answer -/
theorem bw_callVi {post : Int32 → S → Prop} (F : CallFix p m c cc nL s args Ts own) (hK : va_K G vwCl kt s) (hP : va_P G vwCl w0 H) (hD : va_D A w0) (hS : va_S A s.heap H locs) (hA : ∀ q : Nat, s.heap.size ≤ q → A q)
    (hM : bw_Ci l y ws rm E G kt (.ref b :: As) wc post w') (hEb : bw_Eb E) (hE : (∀ q : Nat, va_A wc H.size q → A q) → ∀ U : State, U.heap = H → s.WarmedH U.vm → E (va_A wc H.size) U) (hT : GoodIn Ts (wsV own index C y ws)) (hw : ws = Cond.code y bytes maxL ret :: ws')
    (hd : y.cls = C ∧ y.cls ≠ "java/lang/invoke/MethodHandle" ∧ y.cls ≠ "java/lang/invoke/VarHandle" ∧ (parseMethodDescriptor y.desc).map (fun d => d.parameters.length) = some As.length) (hRm : rm.frames + 1 ≤ R.frames ∧ 8 + (maxL + 11) + rm.locals ≤ R.locals)
    (isC isR : List Nat) (hC : isC.map (fun i => w0[i]?) = wc.map some) (hR : isR.map (fun i => w0[i]?) = wr.map some) (hnd : va_nd isR = true) (hdis : ∀ i ∈ isR, i ∉ isC) (hnc : va_nd isC = true) (k0 ci : Nat) (hc : vwCl[ci]? = some q) (hq : q.1 = C) (he : wc[k0]? = some (b, .inr (ci, fs)))
    (hsize : ls.size = nL) (hstack : stk = As.reverse ++ .ref b :: rest) (hroom : (rest.map fun v => v.category).sum ≤ 8) (hdg : decode cc pc = .ok (.invokevirtual index, 3)) (hf : cells + rm.cells ≤ R.cells ∧ slots + rm.slots ≤ R.slots)
    (kk : ∀ (r : Int32) (u : S) (H1 : Heap) (locs1 : List Loc), post r u → va_P G vwCl (wr ++ w' u) H1 → va_D A (wr ++ w' u) → va_S A s.heap H1 locs1 → W p l e R s m args below meth c H1 locs1 (cells + rm.cells) (slots + rm.slots) Q (F0 m (pc + 3) ls (.int r :: rest))) : W p l e R s m args below meth c H locs cells slots Q (F0 m pc ls stk) := by
  have hPc := bw_subP hP hC
  have hDc := hD.sub isC hnc hC
  have hF := va_free (wc := wc) hD hS hA isC hC
  have hp := bw_Cv.hp (av := .ref b :: As) hEb hK hPc hDc (hE hF)
  subst hq
  exact bw_run_i hP hD hS hA isC isR hC hR hnd hdis (va_runV (As := As) F (hM H.size) (cwV As.length F.2.2.2.2 hT hw rfl rfl hd hRm) ⟨hp.1, va_recv hK hPc hc he, hp.2⟩ rfl rfl hsize hstack (lv_room (m := m) (pc := pc) (ls := ls) (rest := stk) hroom) hdg hf) kk
theorem bw_callVv {post : S → Prop} (F : CallFix p m c cc nL s args Ts own) (hK : va_K G vwCl kt s) (hP : va_P G vwCl w0 H) (hD : va_D A w0) (hS : va_S A s.heap H locs) (hA : ∀ q : Nat, s.heap.size ≤ q → A q)
    (hM : bw_Cv l y ws rm E G kt (.ref b :: As) wc post w') (hEb : bw_Eb E) (hE : (∀ q : Nat, va_A wc H.size q → A q) → ∀ U : State, U.heap = H → s.WarmedH U.vm → E (va_A wc H.size) U) (hT : GoodIn Ts (wsV own index C y ws)) (hw : ws = Cond.code y bytes maxL ret :: ws')
    (hd : y.cls = C ∧ y.cls ≠ "java/lang/invoke/MethodHandle" ∧ y.cls ≠ "java/lang/invoke/VarHandle" ∧ (parseMethodDescriptor y.desc).map (fun d => d.parameters.length) = some As.length) (hRm : rm.frames + 1 ≤ R.frames ∧ 8 + (maxL + 11) + rm.locals ≤ R.locals)
    (isC isR : List Nat) (hC : isC.map (fun i => w0[i]?) = wc.map some) (hR : isR.map (fun i => w0[i]?) = wr.map some) (hnd : va_nd isR = true) (hdis : ∀ i ∈ isR, i ∉ isC) (hnc : va_nd isC = true) (k0 ci : Nat) (hc : vwCl[ci]? = some q) (hq : q.1 = C) (he : wc[k0]? = some (b, .inr (ci, fs)))
    (hsize : ls.size = nL) (hstack : stk = As.reverse ++ .ref b :: rest) (hroom : (rest.map fun v => v.category).sum ≤ 8) (hdg : decode cc pc = .ok (.invokevirtual index, 3)) (hf : cells + rm.cells ≤ R.cells ∧ slots + rm.slots ≤ R.slots)
    (kk : ∀ (u : S) (H1 : Heap) (locs1 : List Loc), post u → va_P G vwCl (wr ++ w' u) H1 → va_D A (wr ++ w' u) → va_S A s.heap H1 locs1 → W p l e R s m args below meth c H1 locs1 (cells + rm.cells) (slots + rm.slots) Q (F0 m (pc + 3) ls rest)) : W p l e R s m args below meth c H locs cells slots Q (F0 m pc ls stk) := by
  have hPc := bw_subP hP hC
  have hDc := hD.sub isC hnc hC
  have hF := va_free (wc := wc) hD hS hA isC hC
  have hp := bw_Cv.hp (av := .ref b :: As) hEb hK hPc hDc (hE hF)
  subst hq
  exact bw_run_v hP hD hS hA isC isR hC hR hnd hdis (va_runV (As := As) F (hM H.size) (cwV As.length F.2.2.2.2 hT hw rfl rfl hd hRm) ⟨hp.1, va_recv hK hPc hc he, hp.2⟩ rfl rfl hsize hstack (lv_room (m := m) (pc := pc) (ls := ls) (rest := stk) hroom) hdg hf) kk
theorem bw_callSi {post : Int32 → S → Prop} (F : CallFix p m c cc nL s args Ts own) (hK : va_K G vwCl kt s) (hP : va_P G vwCl w0 H) (hD : va_D A w0) (hS : va_S A s.heap H locs) (hA : ∀ q : Nat, s.heap.size ≤ q → A q)
    (hM : bw_Ci l y ws rm E G kt As wc post w') (hEb : bw_Eb E) (hE : (∀ q : Nat, va_A wc H.size q → A q) → ∀ U : State, U.heap = H → s.WarmedH U.vm → E (va_A wc H.size) U) (hT : GoodIn Ts (wsS own index y ws)) (hw : ws = Cond.code y bytes maxL ret :: ws')
    (hd : y.cls = own ∧ y.cls ≠ "java/lang/invoke/MethodHandle" ∧ y.cls ≠ "java/lang/invoke/VarHandle" ∧ (parseMethodDescriptor y.desc).map (fun d => d.parameters.length) = some As.length) (hRm : rm.frames + 1 ≤ R.frames ∧ 8 + (maxL + 11) + rm.locals ≤ R.locals)
    (isC isR : List Nat) (hC : isC.map (fun i => w0[i]?) = wc.map some) (hR : isR.map (fun i => w0[i]?) = wr.map some) (hnd : va_nd isR = true) (hdis : ∀ i ∈ isR, i ∉ isC) (hnc : va_nd isC = true)
    (hsize : ls.size = nL) (hstack : stk = As.reverse ++ rest) (hroom : (rest.map fun v => v.category).sum ≤ 8) (hdg : decode cc pc = .ok (.invokestatic index, 3)) (hf : cells + rm.cells ≤ R.cells ∧ slots + rm.slots ≤ R.slots)
    (kk : ∀ (r : Int32) (u : S) (H1 : Heap) (locs1 : List Loc), post r u → va_P G vwCl (wr ++ w' u) H1 → va_D A (wr ++ w' u) → va_S A s.heap H1 locs1 → W p l e R s m args below meth c H1 locs1 (cells + rm.cells) (slots + rm.slots) Q (F0 m (pc + 3) ls (.int r :: rest))) : W p l e R s m args below meth c H locs cells slots Q (F0 m pc ls stk) := by
  have hPc := bw_subP hP hC
  have hDc := hD.sub isC hnc hC
  have hF := va_free (wc := wc) hD hS hA isC hC
  have hp := bw_Cv.hp (av := As) hEb hK hPc hDc (hE hF)
  exact bw_run_i hP hD hS hA isC isR hC hR hnd hdis (va_runS (As := As) F (hM H.size) (cwS As.length F.2.2.2.2 hT hw rfl rfl hd hRm) hp rfl rfl hsize hstack (lv_room (m := m) (pc := pc) (ls := ls) (rest := stk) hroom) hdg hf) kk
theorem bw_callIv {post : S → Prop} (F : CallFix p m c cc nL s args Ts own) (hK : va_K G vwCl kt s) (hP : va_P G vwCl w0 H) (hD : va_D A w0) (hS : va_S A s.heap H locs) (hA : ∀ q : Nat, s.heap.size ≤ q → A q)
    (hM : bw_Cv l y ws rm E G kt (.ref b :: As) wc post w') (hEb : bw_Eb E) (hE : (∀ q : Nat, va_A wc H.size q → A q) → ∀ U : State, U.heap = H → s.WarmedH U.vm → E (va_A wc H.size) U) (hT : GoodIn Ts ws) (hw : ws = Cond.code y bytes maxL none :: ws')
    (hini : (Cond.initialized y.cls).before args s = true) (hl : (Cond.methodLink own index y).before args s = true) (hin : (Cond.instanceMethod y).before args s = true) (hy1 : y.name = "<init>")
    (hd : y.cls ≠ "java/lang/invoke/MethodHandle" ∧ y.cls ≠ "java/lang/invoke/VarHandle" ∧ (parseMethodDescriptor y.desc).map (fun d => d.parameters.length) = some As.length) (hRm : rm.frames + 1 ≤ R.frames ∧ 8 + (maxL + 11) + rm.locals ≤ R.locals)
    (isC isR : List Nat) (hC : isC.map (fun i => w0[i]?) = wc.map some) (hR : isR.map (fun i => w0[i]?) = wr.map some) (hnd : va_nd isR = true) (hdis : ∀ i ∈ isR, i ∉ isC) (hnc : va_nd isC = true)
    (hsize : ls.size = nL) (hstack : stk = As.reverse ++ .ref b :: rest) (hroom : (rest.map fun v => v.category).sum ≤ 8) (hdg : decode cc pc = .ok (.invokespecial index, 3)) (hf : cells + rm.cells ≤ R.cells ∧ slots + rm.slots ≤ R.slots)
    (kk : ∀ (u : S) (H1 : Heap) (locs1 : List Loc), post u → va_P G vwCl (wr ++ w' u) H1 → va_D A (wr ++ w' u) → va_S A s.heap H1 locs1 → W p l e R s m args below meth c H1 locs1 (cells + rm.cells) (slots + rm.slots) Q (F0 m (pc + 3) ls rest)) : W p l e R s m args below meth c H locs cells slots Q (F0 m pc ls stk) := by
  have hPc := bw_subP hP hC
  have hDc := hD.sub isC hnc hC
  have hF := va_free (wc := wc) hD hS hA isC hC
  have hp := bw_Cv.hp (av := .ref b :: As) hEb hK hPc hDc (hE hF)
  exact bw_run_v hP hD hS hA isC isR hC hR hnd hdis (va_runI (As := As) F (hM H.size) (cwI As.length F.2.2.2.2 hT hw rfl rfl hini hl hin hy1 hd hRm) hp rfl rfl hsize hstack (lv_room (m := m) (pc := pc) (ls := ls) (rest := stk) hroom) hdg hf) kk
theorem bw_callNv {host : String} {post : S → Prop} (F : CallFix p m c cc nL s args Ts own) (hK : va_K G vwCl kt s) (hP : va_P G vwCl w0 H) (hD : va_D A w0) (hS : va_S A s.heap H locs) (hA : ∀ q : Nat, s.heap.size ≤ q → A q)
    (hM : bw_Cv l y ws rm E G kt (.ref b :: As) wc post w') (hEb : bw_Eb E) (hE : (∀ q : Nat, va_A wc H.size q → A q) → ∀ U : State, U.heap = H → s.WarmedH U.vm → E (va_A wc H.size) U) (hT : GoodIn Ts ws) (hw : ws = Cond.code y bytes maxL none :: ws')
    (hini : (Cond.initialized y.cls).before args s = true) (hl : va_Nw (.methodLinkNest own index y host) s) (hin : (Cond.instanceMethod y).before args s = true) (hy1 : y.name = "<init>")
    (hd : y.cls ≠ "java/lang/invoke/MethodHandle" ∧ y.cls ≠ "java/lang/invoke/VarHandle" ∧ (parseMethodDescriptor y.desc).map (fun d => d.parameters.length) = some As.length) (hRm : rm.frames + 1 ≤ R.frames ∧ 8 + (maxL + 11) + rm.locals ≤ R.locals)
    (isC isR : List Nat) (hC : isC.map (fun i => w0[i]?) = wc.map some) (hR : isR.map (fun i => w0[i]?) = wr.map some) (hnd : va_nd isR = true) (hdis : ∀ i ∈ isR, i ∉ isC) (hnc : va_nd isC = true)
    (hsize : ls.size = nL) (hstack : stk = As.reverse ++ .ref b :: rest) (hroom : (rest.map fun v => v.category).sum ≤ 8) (hdg : decode cc pc = .ok (.invokespecial index, 3)) (hf : cells + rm.cells ≤ R.cells ∧ slots + rm.slots ≤ R.slots)
    (kk : ∀ (u : S) (H1 : Heap) (locs1 : List Loc), post u → va_P G vwCl (wr ++ w' u) H1 → va_D A (wr ++ w' u) → va_S A s.heap H1 locs1 → W p l e R s m args below meth c H1 locs1 (cells + rm.cells) (slots + rm.slots) Q (F0 m (pc + 3) ls rest)) : W p l e R s m args below meth c H locs cells slots Q (F0 m pc ls stk) := by
  have hPc := bw_subP hP hC
  have hDc := hD.sub isC hnc hC
  have hF := va_free (wc := wc) hD hS hA isC hC
  have hp := bw_Cv.hp (av := .ref b :: As) hEb hK hPc hDc (hE hF)
  exact bw_run_v hP hD hS hA isC isR hC hR hnd hdis (va_runIN (As := As) F (hM H.size) ⟨va_cnB As.length F.2.2.2.2 hT hw rfl rfl hl hini hd hRm, hy1, hin⟩ hp rfl rfl hsize hstack (lv_room (m := m) (pc := pc) (ls := ls) (rest := stk) hroom) hdg hf) kk
/-- the kinds of arrays are known ahead: a new array is of the kind in the table -/
theorem bw_same {tys : List (ClassId × FieldType)} {ty : FieldType} {c1 c2 : ClassId} {t1 t2 : Nat} (hK : va_K G vwCl tys s) (h1 : tys[t1]? = some (c1, ty)) (h2 : tys[t2]? = some (c2, ty)) : c1 = c2 := by
  have a := (hK.2 t1 _ h1).2
  have b := (hK.2 t2 _ h2).2
  cases ty with
  | object C =>
    obtain ⟨_, _, _, _, _, a4⟩ := a
    obtain ⟨_, _, _, _, _, b4⟩ := b
    exact Option.some.inj (a4.symm.trans b4)
  | _ => exact Option.some.inj (Eq.trans (Eq.symm a) b)
theorem bw_newa (hexec : p.tables.exec = Jvm.exec) (hb : c.code = cc) {atype : ArrayType} (harr : (Cond.arrayClass (newarray.typeOf atype)).before args s = true) {ty : FieldType} (hty : newarray.typeOf atype = ty) (hK : va_K G vwCl kt s) (hP : va_P G vwCl w0 H) (hD : va_D A w0) (hS : va_S A s.heap H locs) (hA : ∀ q : Nat, s.heap.size ≤ q → A q) (t0 : Nat) {cA : ClassId} (ht : kt[t0]? = some (cA, ty))
    {n : Int32} {N' : Nat} {a0 : vp_A} (ha : ∀ cA : ClassId, vp_cell cA a0 = arrV cA N' (fun _ => defaultValue ty)) (hn : ¬ n < 0) (hN : n.toNatClampNeg = N') (hbytes : N' * componentBytes ty ≤ 536870912) (hcells : cells + 1 ≤ R.cells) (hslots : slots + N' ≤ R.slots) (hdg : decode cc pc = .ok (.newarray atype, 2))
    (kk : ∀ (q : Nat) (H1 : Heap), va_P G vwCl (w0 ++ [(q, .inl (cA, a0))]) H1 → va_D A (w0 ++ [(q, .inl (cA, a0))]) → va_S A s.heap H1 locs →
      W p l e R s m args below meth c H1 locs (cells + 1) (slots + N') Q (F0 m (pc + 2) ls (.ref q :: rest))) : W p l e R s m args below meth c H locs cells slots Q (F0 m pc ls (.int n :: rest)) := by
  refine va_newa hexec hb harr hty hK hP hD hS hA ha hn hN hbytes hcells hslots hdg (fun q c2 H1 hK1 hP1 hD1 hS1 => ?_)
  have e : c2 = cA := bw_same (ty := ty) (c1 := c2) (c2 := cA) (t1 := kt.length) (t2 := t0) hK1 (by simp) (by rw [List.getElem?_append_left (List.getElem?_eq_some_iff.mp ht).1]; exact ht)
  subst e
  exact kk q H1 hP1 hD1 hS1
end BWC
end
section
/-! one list of words for every method: the good ones of the tables; rows that take them out by their places -/
def bw_T : List Cond := lw_tbl.filter goodWord
theorem bw_T_good : ∀ w ∈ bw_T, goodWord w = true := fun _ h => (List.mem_filter.mp h).2
theorem bw_m {w : Cond} (i : Nat) (h : lw_tbl[i]? = some w) (hg : goodWord w = true) : w ∈ bw_T := List.mem_filter.mpr ⟨List.mem_of_getElem? h, hg⟩
theorem bw_ms (ws : List Cond) (ps : List Nat) (hp : ws = ps.filterMap (fun i => lw_tbl[i]?)) (h : ws.all goodWord = true) : ∀ w ∈ ws, w ∈ bw_T := fun w hw => List.mem_filter.mpr ⟨((goodIn_r ws ps hp h) w hw).1, List.all_eq_true.mp h w hw⟩
theorem bw_g {ws : List Cond} (h : ∀ w ∈ ws, w ∈ bw_T) : GoodIn bw_T ws := fun w hw => ⟨h w hw, good_of_word (bw_T_good w (h w hw))⟩
abbrev bw_ws (c : Cond) : List Cond := c :: bw_T
theorem bw_gc {c : Cond} (h : c ∈ bw_T) : ∀ w ∈ bw_ws c, w ∈ bw_T := fun w hw => (List.mem_cons.mp hw).elim (fun e => by rw [e]; exact h) id
/-- what the tables say of an instance method: it is one, it is what is selected, its class stands, its code -/
def bw_KV (C : String) (y : MethodName) (c : Cond) : Prop := Cond.instanceMethod y ∈ bw_T ∧ Cond.selects C y y ∈ bw_T ∧ Cond.initialized C ∈ bw_T ∧ c ∈ bw_T
def bw_KS (C : String) (y : MethodName) (c : Cond) : Prop := Cond.static y ∈ bw_T ∧ Cond.initialized C ∈ bw_T ∧ c ∈ bw_T
def bw_KI (C : String) (y : MethodName) (c : Cond) : Prop := Cond.instanceMethod y ∈ bw_T ∧ Cond.initialized C ∈ bw_T ∧ c ∈ bw_T
theorem bw_gV {own C : String} {idx : Nat} {y : MethodName} {c : Cond} (h1 : Cond.methodLink own idx y ∈ bw_T) (h2 : bw_KV C y c) : GoodIn bw_T (wsV own idx C y (bw_ws c)) := by
  obtain ⟨a, b, d, f⟩ := h2
  refine bw_g (fun w hw => ?_)
  unfold wsV at hw
  rcases List.mem_append.mp hw with h | h
  · simp only [List.mem_cons, List.not_mem_nil, or_false] at h
    rcases h with rfl | rfl | rfl | rfl <;> assumption
  · exact bw_gc f w h
theorem bw_gS {own : String} {idx : Nat} {y : MethodName} {c : Cond} (h1 : Cond.methodLink own idx y ∈ bw_T) (h2 : bw_KS own y c) : GoodIn bw_T (wsS own idx y (bw_ws c)) := by
  obtain ⟨a, b, d⟩ := h2
  refine bw_g (fun w hw => ?_)
  unfold wsS at hw
  rcases List.mem_append.mp hw with h | h
  · simp only [List.mem_cons, List.not_mem_nil, or_false] at h
    rcases h with rfl | rfl | rfl <;> assumption
  · exact bw_gc d w h
/-- what an extra word must bear: a call's start, and a move to another heap and machine -/
def bw_Mv (E : (Nat → Prop) → State → Prop) : Prop := ∀ (A B : Nat → Prop) (s U : State) (H : Heap) (locs : List Loc), E A s → va_S A s.heap H locs → (∀ q, B q → A q) → U.heap = H → s.WarmedH U.vm → E B U
def bw_Ok (E : (Nat → Prop) → State → Prop) : Prop := bw_Eb E ∧ bw_Mv E
theorem bw_vin {i : Int32} {n : Nat} (h : ¬ (i < 0 ∨ n ≤ i.toNatClampNeg)) : vp_in i n := h
theorem bw_upd0 {k : Nat} : upd (fun _ => 0) k 0 = (fun _ => 0) := by
  funext j
  by_cases h : j = k
  · rw [h]; exact pk_us
  · exact pk_un h
theorem bw_dflt {n : Nat} {f g : Nat → Value} (h : (List.range n).map f = (List.range n).map g) : ∀ j, j < n → f j = g j := by
  intro j hj
  have h1 := congrArg (fun l => l[j]?) h
  simp only [List.getElem?_map, List.getElem?_range hj, Option.map_some, Option.some.injEq] at h1
  exact h1
abbrev bw_U : Type := (Nat → Nat) × (Nat → Nat → Int32)
abbrev bw_kt (cI cB cJ cN cW : ClassId) : List (ClassId × FieldType) := [(cI, .int), (cB, .byte), (cJ, .long), (cN, .object "BurntWays$Net"), (cW, .object "BurntWays$Walk")]
section RW
variable {p : Program} {l : Launch} {e : Env} {R : Room} {s : State} {m : MethodId} {args : Array Value} {below : List Frame} {meth : Method} {c : Code} {H : Heap} {locs : List Loc} {cells slots : Nat} {Q : State → Prop}
variable {cc : ByteArray} {nL : Nat} {own : String} {G : va_G} {kt : List (ClassId × FieldType)} {w0 wc wr : va_W} {A : Nat → Prop} {S : Type} {y : MethodName} {rm : Room} {E : (Nat → Prop) → State → Prop} {As rest stk : List Value} {b a : Addr} {w' : S → va_W} {bytes : ByteArray} {maxL index pc : Nat} {ret : Option FieldType} {C ref : String} {ls : Array Slot} {fs : List Value} {T : u_T} {N ci : Nat}
theorem r_get (F : CallFix p m c cc nL s args bw_T own) (hK : va_K G vwCl kt s) (hP : va_P G vwCl w0 H) (q0 k : Nat) (he : w0[q0]? = some (a, .inr (ci, fs))) (hc : vwCl[ci]? = some (C, T, N)) (hin : ∀ w ∈ u_ws C T N, w ∈ bw_T) (hk : k < N) (hl : Cond.fieldLink own index (T k).1 (T k).2.1 (T k).2.2.1 ∈ bw_T) {v : Value} (hv : fs[k]? = some v) (hdg : decode cc pc = .ok (.getfield index, 3))
    (kk : W p l e R s m args below meth c H locs cells slots Q (F0 m (pc + 3) ls (v :: rest))) : W p l e R s m args below meth c H locs cells slots Q (F0 m pc ls (.ref a :: rest)) :=
  va_get F.1 F.2.1 F.2.2.2.2 hin F.2.2.2.1 hK hP q0 he hc k hk (F.2.2.2.2 _ hl) (fun _ h => h) hv hdg kk
theorem r_put (F : CallFix p m c cc nL s args bw_T own) (hK : va_K G vwCl kt s) (hP : va_P G vwCl w0 H) (hD : va_D A w0) (hS : va_S A s.heap H locs) (q0 k : Nat) (he : w0[q0]? = some (a, .inr (ci, fs))) (hc : vwCl[ci]? = some (C, T, N)) (hin : ∀ w ∈ u_ws C T N, w ∈ bw_T) (ty0 : Nat → FieldType) (hty : ∀ k, k < N → parseFieldDescriptor (T k).2.2.1 = some (ty0 k)) (hnm : ∀ a, a < N → ∀ b, b < N → a ≠ b → (T a).2.1 ≠ (T b).2.1) (hk : k < N) (hl : Cond.fieldLink own index (T k).1 (T k).2.1 (T k).2.2.1 ∈ bw_T) (hfin : (T k).2.2.2 = false) {v : Value} (hn : narrow (ty0 k) v = v) (hfit : fits (ty0 k) v = true) (hlen : k < fs.length) (hdg : decode cc pc = .ok (.putfield index, 3)) {w1 : va_W} (hw : w0.set q0 (a, .inr (ci, fs.set k v)) = w1)
    (kk : ∀ (H1 : Heap) (locs1 : List Loc), va_P G vwCl w1 H1 → va_D A w1 → va_S A s.heap H1 locs1 → W p l e R s m args below meth c H1 locs1 cells slots Q (F0 m (pc + 3) ls rest)) : W p l e R s m args below meth c H locs cells slots Q (F0 m pc ls (v :: .ref a :: rest)) := by
  subst hw
  exact va_put F.1 F.2.1 F.2.2.2.2 hin ty0 hty hnm F.2.2.2.1 hK hP hD hS q0 he hc k hk (F.2.2.2.2 _ hl) (fun _ h => h) hfin (hty k hk) hn hfit hlen hdg kk
theorem r_putF (F : CallFix p m c cc nL s args bw_T own) (hK : va_K G vwCl kt s) (hP : va_P G vwCl w0 H) (hD : va_D A w0) (hS : va_S A s.heap H locs) (q0 k : Nat) (he : w0[q0]? = some (a, .inr (ci, fs))) (hc : vwCl[ci]? = some (C, T, N)) (hin : ∀ w ∈ u_ws C T N, w ∈ bw_T) (ty0 : Nat → FieldType) (hty : ∀ k, k < N → parseFieldDescriptor (T k).2.2.1 = some (ty0 k)) (hnm : ∀ a, a < N → ∀ b, b < N → a ≠ b → (T a).2.1 ≠ (T b).2.1) (hk : k < N) (hl : Cond.fieldLink own index (T k).1 (T k).2.1 (T k).2.2.1 ∈ bw_T) (hfin : (T k).2.2.2 = true) (hin2 : meth.name = "<init>") (hdecl : (T k).1 = own) {v : Value} (hn : narrow (ty0 k) v = v) (hfit : fits (ty0 k) v = true) (hlen : k < fs.length) (hdg : decode cc pc = .ok (.putfield index, 3)) {w1 : va_W} (hw : w0.set q0 (a, .inr (ci, fs.set k v)) = w1)
    (kk : ∀ (H1 : Heap) (locs1 : List Loc), va_P G vwCl w1 H1 → va_D A w1 → va_S A s.heap H1 locs1 → W p l e R s m args below meth c H1 locs1 cells slots Q (F0 m (pc + 3) ls rest)) : W p l e R s m args below meth c H locs cells slots Q (F0 m pc ls (v :: .ref a :: rest)) := by
  subst hw
  exact va_putF F.1 F.2.1 F.2.2.2.2 hin ty0 hty hnm F.2.2.2.1 hK hP hD hS q0 he hc k hk (F.2.2.2.2 _ hl) (fun _ h => h) hfin hin2 hdecl (hty k hk) hn hfit hlen hdg kk
theorem r_iald (F : CallFix p m c cc nL s args bw_T own) (hK : va_K G vwCl kt s) (hP : va_P G vwCl w0 H) (q0 t0 : Nat) {cA : ClassId} {n : Nat} {f : Nat → Int32} (ha : w0[q0]? = some (a, .inl (cA, n, .inl f))) (ht : kt[t0]? = some (cA, .int)) {i v : Int32} (hi : vp_in i n) (hdg : decode cc pc = .ok (.iaload, 1)) (hv : f i.toNatClampNeg = v)
    (kk : W p l e R s m args below meth c H locs cells slots Q (F0 m (pc + 1) ls (.int v :: rest))) : W p l e R s m args below meth c H locs cells slots Q (F0 m pc ls (.int i :: .ref a :: rest)) := by
  subst hv
  exact va_iald F.1 F.2.1 hK hP q0 t0 ha ht hi hdg kk
theorem r_iast (F : CallFix p m c cc nL s args bw_T own) (hK : va_K G vwCl kt s) (hP : va_P G vwCl w0 H) (hD : va_D A w0) (hS : va_S A s.heap H locs) (q0 t0 : Nat) {cA : ClassId} {n : Nat} {f f' : Nat → Int32} (ha : w0[q0]? = some (a, .inl (cA, n, .inl f))) (ht : kt[t0]? = some (cA, .int)) {i x : Int32} (hi : vp_in i n) (hdg : decode cc pc = .ok (.iastore, 1)) (hf : upd f i.toNatClampNeg x = f') {w1 : va_W} (hw : w0.set q0 (a, .inl (cA, n, .inl f')) = w1)
    (kk : ∀ (H1 : Heap) (locs1 : List Loc), va_P G vwCl w1 H1 → va_D A w1 → va_S A s.heap H1 locs1 → W p l e R s m args below meth c H1 locs1 cells slots Q (F0 m (pc + 1) ls rest)) : W p l e R s m args below meth c H locs cells slots Q (F0 m pc ls (.int x :: .int i :: .ref a :: rest)) := by
  subst hw hf
  exact va_iast F.1 F.2.1 hK hP hD hS q0 t0 ha ht hi hdg kk
/-- .. what it holds then is forgotten -/
theorem r_iastX (F : CallFix p m c cc nL s args bw_T own) (hK : va_K G vwCl kt s) (hP : va_P G vwCl w0 H) (hD : va_D A w0) (hS : va_S A s.heap H locs) (q0 t0 : Nat) {cA : ClassId} {n : Nat} {f : Nat → Int32} (ha : w0[q0]? = some (a, .inl (cA, n, .inl f))) (ht : kt[t0]? = some (cA, .int)) {i x : Int32} (hi : vp_in i n) (hdg : decode cc pc = .ok (.iastore, 1)) {w1 : (Nat → Int32) → va_W} (hw : ∀ f', w0.set q0 (a, .inl (cA, n, .inl f')) = w1 f')
    (kk : ∀ (f' : Nat → Int32) (H1 : Heap) (locs1 : List Loc), va_P G vwCl (w1 f') H1 → va_D A (w1 f') → va_S A s.heap H1 locs1 → W p l e R s m args below meth c H1 locs1 cells slots Q (F0 m (pc + 1) ls rest)) : W p l e R s m args below meth c H locs cells slots Q (F0 m pc ls (.int x :: .int i :: .ref a :: rest)) :=
  r_iast F hK hP hD hS q0 t0 ha ht hi hdg rfl (hw _) (kk _)
theorem r_bastX (F : CallFix p m c cc nL s args bw_T own) (hK : va_K G vwCl kt s) (hP : va_P G vwCl w0 H) (hD : va_D A w0) (hS : va_S A s.heap H locs) (q0 t0 : Nat) {cA : ClassId} {n : Nat} {f : Nat → Int32} (ha : w0[q0]? = some (a, .inl (cA, n, .inl f))) (ht : kt[t0]? = some (cA, .byte)) {i x : Int32} (hi : vp_in i n) (hdg : decode cc pc = .ok (.bastore, 1)) {w1 : (Nat → Int32) → va_W} (hw : ∀ f', w0.set q0 (a, .inl (cA, n, .inl f')) = w1 f')
    (kk : ∀ (f' : Nat → Int32) (H1 : Heap) (locs1 : List Loc), va_P G vwCl (w1 f') H1 → va_D A (w1 f') → va_S A s.heap H1 locs1 → W p l e R s m args below meth c H1 locs1 cells slots Q (F0 m (pc + 1) ls rest)) : W p l e R s m args below meth c H locs cells slots Q (F0 m pc ls (.int x :: .int i :: .ref a :: rest)) := by
  refine va_bast F.1 F.2.1 hK hP hD hS q0 t0 ha ht hi hdg (fun H1 locs1 hP1 hD1 hS1 => ?_)
  rw [hw] at hP1 hD1
  exact kk _ H1 locs1 hP1 hD1 hS1
theorem r_lald (F : CallFix p m c cc nL s args bw_T own) (hK : va_K G vwCl kt s) (hP : va_P G vwCl w0 H) (q0 t0 : Nat) {cA : ClassId} {n : Nat} {f : Nat → Int64} (ha : w0[q0]? = some (a, .inl (cA, n, .inr (.inl f)))) (ht : kt[t0]? = some (cA, .long)) {i : Int32} (hi : vp_in i n) (hdg : decode cc pc = .ok (.laload, 1))
    (kk : ∀ v : Int64, W p l e R s m args below meth c H locs cells slots Q (F0 m (pc + 1) ls (.long v :: rest))) : W p l e R s m args below meth c H locs cells slots Q (F0 m pc ls (.int i :: .ref a :: rest)) :=
  va_lald F.1 F.2.1 hK hP q0 t0 ha ht hi hdg (kk _)
theorem r_lastX (F : CallFix p m c cc nL s args bw_T own) (hK : va_K G vwCl kt s) (hP : va_P G vwCl w0 H) (hD : va_D A w0) (hS : va_S A s.heap H locs) (q0 t0 : Nat) {cA : ClassId} {n : Nat} {f : Nat → Int64} (ha : w0[q0]? = some (a, .inl (cA, n, .inr (.inl f)))) (ht : kt[t0]? = some (cA, .long)) {i : Int32} {x : Int64} (hi : vp_in i n) (hdg : decode cc pc = .ok (.lastore, 1)) {w1 : (Nat → Int64) → va_W} (hw : ∀ f', w0.set q0 (a, .inl (cA, n, .inr (.inl f'))) = w1 f')
    (kk : ∀ (f' : Nat → Int64) (H1 : Heap) (locs1 : List Loc), va_P G vwCl (w1 f') H1 → va_D A (w1 f') → va_S A s.heap H1 locs1 → W p l e R s m args below meth c H1 locs1 cells slots Q (F0 m (pc + 1) ls rest)) : W p l e R s m args below meth c H locs cells slots Q (F0 m pc ls (.long x :: .int i :: .ref a :: rest)) := by
  refine va_last F.1 F.2.1 hK hP hD hS q0 t0 ha ht hi hdg (fun H1 locs1 hP1 hD1 hS1 => ?_)
  rw [hw] at hP1 hD1
  exact kk _ H1 locs1 hP1 hD1 hS1
theorem r_newa (F : CallFix p m c cc nL s args bw_T own) {atype : ArrayType} {ty : FieldType} (hty : newarray.typeOf atype = ty) (harr : Cond.arrayClass ty ∈ bw_T) (hK : va_K G vwCl kt s) (hP : va_P G vwCl w0 H) (hD : va_D A w0) (hS : va_S A s.heap H locs) (hA : ∀ q : Nat, s.heap.size ≤ q → A q) (t0 : Nat) {cA : ClassId} (ht : kt[t0]? = some (cA, ty))
    {n : Int32} (N' : Nat) (a0 : vp_A) (ha : ∀ cA : ClassId, vp_cell cA a0 = arrV cA N' (fun _ => defaultValue ty)) (hn : ¬ n < 0) (hN : n.toNatClampNeg = N') (hbytes : N' * componentBytes ty ≤ 536870912) (hcells : cells + 1 ≤ R.cells) (hslots : slots + N' ≤ R.slots) (hdg : decode cc pc = .ok (.newarray atype, 2)) {w1 : Nat → va_W} (hw : ∀ q, w0 ++ [(q, .inl (cA, a0))] = w1 q)
    (kk : ∀ (q : Nat) (H1 : Heap), va_P G vwCl (w1 q) H1 → va_D A (w1 q) → va_S A s.heap H1 locs →
      W p l e R s m args below meth c H1 locs (cells + 1) (slots + N') Q (F0 m (pc + 2) ls (.ref q :: rest))) : W p l e R s m args below meth c H locs cells slots Q (F0 m pc ls (.int n :: rest)) := by
  subst hty
  refine bw_newa F.1 F.2.1 (F.2.2.2.2 _ harr) rfl hK hP hD hS hA t0 ht ha hn hN hbytes hcells hslots hdg (fun q H1 hP1 hD1 hS1 => ?_)
  rw [hw] at hP1 hD1
  exact kk q H1 hP1 hD1 hS1
theorem r_new (F : CallFix p m c cc nL s args bw_T own) (hK : va_K G vwCl kt s) (hP : va_P G vwCl w0 H) (hD : va_D A w0) (hS : va_S A s.heap H locs) (hA : ∀ q : Nat, s.heap.size ≤ q → A q) (hc : vwCl[ci]? = some (C, T, N)) (hin : ∀ w ∈ u_ws C T N, w ∈ bw_T) (ty0 : Nat → FieldType) (hty : ∀ k, k < N → parseFieldDescriptor (T k).2.2.1 = some (ty0 k)) (hcl : Cond.classLink own index C ∈ bw_T) (hins : Cond.instantiable C N ∈ bw_T) (hini : Cond.initialized C ∈ bw_T) (hfs : ∀ j, j < N → defaultValue (ty0 j) = vp_V fs j) (hcells : cells + 1 ≤ R.cells) (hslots : slots + N ≤ R.slots) (hdg : decode cc pc = .ok (.new index, 3)) {w1 : Nat → va_W} (hw : ∀ q, w0 ++ [(q, .inr (ci, fs))] = w1 q)
    (kk : ∀ (q : Nat) (H1 : Heap), va_P G vwCl (w1 q) H1 → va_D A (w1 q) → va_S A s.heap H1 locs →
      W p l e R s m args below meth c H1 locs (cells + 1) (slots + N) Q (F0 m (pc + 3) ls (.ref q :: rest))) : W p l e R s m args below meth c H locs cells slots Q (F0 m pc ls rest) := by
  refine va_new F.1 F.2.1 F.2.2.2.2 hin ty0 hty F.2.2.2.1 (F.2.2.2.2 _ hcl) (F.2.2.2.2 _ hins) (F.2.2.2.2 _ hini) hK hP hD hS hA hc hfs hcells hslots hdg (fun q H1 hP1 hD1 hS1 => ?_)
  rw [hw] at hP1 hD1
  exact kk q H1 hP1 hD1 hS1
theorem r_objInit (F : CallFix p m c cc nL s args bw_T own) (hl : Cond.methodLink own index Lib.objectInit ∈ bw_T) (h2 : Cond.instanceMethod Lib.objectInit ∈ bw_T) (h3 : Cond.code Lib.objectInit ⟨#[0xb1]⟩ 1 none ∈ bw_T) (hsize : ls.size = nL) (hdg : decode cc pc = .ok (.invokespecial index, 3)) (hf : 1 ≤ R.frames) (hlo : (rest.map fun v => v.category).sum + 12 ≤ R.locals)
    (kk : W p l e R s m args below meth c H locs cells slots Q (F0 m (pc + 3) ls rest)) : W p l e R s m args below meth c H locs cells slots Q (F0 m pc ls (.ref a :: rest)) := by
  refine W.objInit F.1 F.2.1 F.2.2.2.1 (F.2.2.2.2 _ hl) (F.2.2.2.2 _ h2) (F.2.2.2.2 _ h3) (g := F0 m pc ls (.ref a :: rest)) rfl (by rw [F.2.2.1]; exact hsize) rfl hdg hf ?_ kk
  show 2 * 0 + _ + 12 ≤ R.locals
  omega
theorem r_iadd (F : CallFix p m c cc nL s args bw_T own) {x y v : Int32} (hdg : decode cc pc = .ok (.iadd, 1)) (hv : x + y = v) (k : W p l e R s m args below meth c H locs cells slots Q (F0 m (pc + 1) ls (.int v :: rest))) : W p l e R s m args below meth c H locs cells slots Q (F0 m pc ls (.int y :: .int x :: rest)) := by
  subst hv; exact lv_iadd F.1 F.2.1 hdg k
theorem r_isub (F : CallFix p m c cc nL s args bw_T own) {x y v : Int32} (hdg : decode cc pc = .ok (.isub, 1)) (hv : x - y = v) (k : W p l e R s m args below meth c H locs cells slots Q (F0 m (pc + 1) ls (.int v :: rest))) : W p l e R s m args below meth c H locs cells slots Q (F0 m pc ls (.int y :: .int x :: rest)) := by
  subst hv; exact lv_isub F.1 F.2.1 hdg k
theorem r_imul (F : CallFix p m c cc nL s args bw_T own) {x y v : Int32} (hdg : decode cc pc = .ok (.imul, 1)) (hv : x * y = v) (k : W p l e R s m args below meth c H locs cells slots Q (F0 m (pc + 1) ls (.int v :: rest))) : W p l e R s m args below meth c H locs cells slots Q (F0 m pc ls (.int y :: .int x :: rest)) := by
  subst hv; exact lv_imul F.1 F.2.1 hdg k
theorem r_iand (F : CallFix p m c cc nL s args bw_T own) {x y v : Int32} (hdg : decode cc pc = .ok (.iand, 1)) (hv : x &&& y = v) (k : W p l e R s m args below meth c H locs cells slots Q (F0 m (pc + 1) ls (.int v :: rest))) : W p l e R s m args below meth c H locs cells slots Q (F0 m pc ls (.int y :: .int x :: rest)) := by
  subst hv; exact lv_iand F.1 F.2.1 hdg k
theorem r_ior (F : CallFix p m c cc nL s args bw_T own) {x y v : Int32} (hdg : decode cc pc = .ok (.ior, 1)) (hv : x ||| y = v) (k : W p l e R s m args below meth c H locs cells slots Q (F0 m (pc + 1) ls (.int v :: rest))) : W p l e R s m args below meth c H locs cells slots Q (F0 m pc ls (.int y :: .int x :: rest)) := by
  subst hv; exact lv_ior F.1 F.2.1 hdg k
theorem r_ishl (F : CallFix p m c cc nL s args bw_T own) {x y v : Int32} (hdg : decode cc pc = .ok (.ishl, 1)) (hv : x <<< (y &&& 31) = v) (k : W p l e R s m args below meth c H locs cells slots Q (F0 m (pc + 1) ls (.int v :: rest))) : W p l e R s m args below meth c H locs cells slots Q (F0 m pc ls (.int y :: .int x :: rest)) := by
  subst hv; exact lv_ishl F.1 F.2.1 hdg k
theorem r_ishr (F : CallFix p m c cc nL s args bw_T own) {x y v : Int32} (hdg : decode cc pc = .ok (.ishr, 1)) (hv : x >>> (y &&& 31) = v) (k : W p l e R s m args below meth c H locs cells slots Q (F0 m (pc + 1) ls (.int v :: rest))) : W p l e R s m args below meth c H locs cells slots Q (F0 m pc ls (.int y :: .int x :: rest)) := by
  subst hv; exact lv_ishr F.1 F.2.1 hdg k
theorem r_idiv (F : CallFix p m c cc nL s args bw_T own) {x y v : Int32} (hdg : decode cc pc = .ok (.idiv, 1)) (hne : ¬ y = 0) (hv : x / y = v) (k : W p l e R s m args below meth c H locs cells slots Q (F0 m (pc + 1) ls (.int v :: rest))) : W p l e R s m args below meth c H locs cells slots Q (F0 m pc ls (.int y :: .int x :: rest)) := by
  subst hv; exact lv_idiv F.1 F.2.1 hdg hne k
theorem r_irem (F : CallFix p m c cc nL s args bw_T own) {x y v : Int32} (hdg : decode cc pc = .ok (.irem, 1)) (hne : ¬ y = 0) (hv : x - x / y * y = v) (k : W p l e R s m args below meth c H locs cells slots Q (F0 m (pc + 1) ls (.int v :: rest))) : W p l e R s m args below meth c H locs cells slots Q (F0 m pc ls (.int y :: .int x :: rest)) := by
  subst hv; exact lv_irem F.1 F.2.1 hdg hne k
/-- the calls: what the callee needs of the world by its places, the rest by its places; the world behind it is named -/
theorem r_callVi {post : Int32 → S → Prop} (F : CallFix p m c cc nL s args bw_T own) (hK : va_K G vwCl kt s) (hP : va_P G vwCl w0 H) (hD : va_D A w0) (hS : va_S A s.heap H locs) (hA : ∀ q : Nat, s.heap.size ≤ q → A q) (hO : bw_Ok E) (hE : E A s)
    (hM : bw_Ci l y (bw_ws (Cond.code y bytes maxL ret)) rm E G kt (.ref b :: As) wc post w') (h1 : Cond.methodLink own index y ∈ bw_T) (h2 : bw_KV C y (Cond.code y bytes maxL ret))
    (nA : Nat) (hnA : As.length = nA) (hd : y.cls = C ∧ y.cls ≠ "java/lang/invoke/MethodHandle" ∧ y.cls ≠ "java/lang/invoke/VarHandle" ∧ (parseMethodDescriptor y.desc).map (fun d => d.parameters.length) = some nA) (hRm : rm.frames + 1 ≤ R.frames ∧ 8 + (maxL + 11) + rm.locals ≤ R.locals)
    (isC isR : List Nat) (hC : isC.map (fun i => w0[i]?) = wc.map some) (hR : isR.map (fun i => w0[i]?) = wr.map some) (hnd : va_nd isR = true) (hdis : ∀ i ∈ isR, i ∉ isC) (hnc : va_nd isC = true) (k0 ci : Nat) {q : vw_C} (hc : vwCl[ci]? = some q) (hq : q.1 = C) (he : wc[k0]? = some (b, .inr (ci, fs)))
    (hsize : ls.size = nL) (hstack : stk = As.reverse ++ .ref b :: rest) (hroom : (rest.map fun v => v.category).sum ≤ 8) (hdg : decode cc pc = .ok (.invokevirtual index, 3)) (hf : cells + rm.cells ≤ R.cells ∧ slots + rm.slots ≤ R.slots) {w1 : S → va_W} (hw : ∀ u, wr ++ w' u = w1 u)
    (kk : ∀ (r : Int32) (u : S) (H1 : Heap) (locs1 : List Loc), post r u → va_P G vwCl (w1 u) H1 → va_D A (w1 u) → va_S A s.heap H1 locs1 → W p l e R s m args below meth c H1 locs1 (cells + rm.cells) (slots + rm.slots) Q (F0 m (pc + 3) ls (.int r :: rest))) : W p l e R s m args below meth c H locs cells slots Q (F0 m pc ls stk) :=
  bw_callVi F hK hP hD hS hA hM hO.1 (fun hB U hU hW => hO.2 A _ s U H locs hE hS hB hU hW) (bw_gV h1 h2) rfl (by rw [hnA]; exact hd) hRm isC isR hC hR hnd hdis hnc k0 ci hc hq he hsize hstack hroom hdg hf (fun r u H1 locs1 hp hP1 hD1 hS1 => kk r u H1 locs1 hp (by rw [← hw]; exact hP1) (by rw [← hw]; exact hD1) hS1)
theorem r_callVv {post : S → Prop} (F : CallFix p m c cc nL s args bw_T own) (hK : va_K G vwCl kt s) (hP : va_P G vwCl w0 H) (hD : va_D A w0) (hS : va_S A s.heap H locs) (hA : ∀ q : Nat, s.heap.size ≤ q → A q) (hO : bw_Ok E) (hE : E A s)
    (hM : bw_Cv l y (bw_ws (Cond.code y bytes maxL ret)) rm E G kt (.ref b :: As) wc post w') (h1 : Cond.methodLink own index y ∈ bw_T) (h2 : bw_KV C y (Cond.code y bytes maxL ret))
    (nA : Nat) (hnA : As.length = nA) (hd : y.cls = C ∧ y.cls ≠ "java/lang/invoke/MethodHandle" ∧ y.cls ≠ "java/lang/invoke/VarHandle" ∧ (parseMethodDescriptor y.desc).map (fun d => d.parameters.length) = some nA) (hRm : rm.frames + 1 ≤ R.frames ∧ 8 + (maxL + 11) + rm.locals ≤ R.locals)
    (isC isR : List Nat) (hC : isC.map (fun i => w0[i]?) = wc.map some) (hR : isR.map (fun i => w0[i]?) = wr.map some) (hnd : va_nd isR = true) (hdis : ∀ i ∈ isR, i ∉ isC) (hnc : va_nd isC = true) (k0 ci : Nat) {q : vw_C} (hc : vwCl[ci]? = some q) (hq : q.1 = C) (he : wc[k0]? = some (b, .inr (ci, fs)))
    (hsize : ls.size = nL) (hstack : stk = As.reverse ++ .ref b :: rest) (hroom : (rest.map fun v => v.category).sum ≤ 8) (hdg : decode cc pc = .ok (.invokevirtual index, 3)) (hf : cells + rm.cells ≤ R.cells ∧ slots + rm.slots ≤ R.slots) {w1 : S → va_W} (hw : ∀ u, wr ++ w' u = w1 u)
    (kk : ∀ (u : S) (H1 : Heap) (locs1 : List Loc), post u → va_P G vwCl (w1 u) H1 → va_D A (w1 u) → va_S A s.heap H1 locs1 → W p l e R s m args below meth c H1 locs1 (cells + rm.cells) (slots + rm.slots) Q (F0 m (pc + 3) ls rest)) : W p l e R s m args below meth c H locs cells slots Q (F0 m pc ls stk) :=
  bw_callVv F hK hP hD hS hA hM hO.1 (fun hB U hU hW => hO.2 A _ s U H locs hE hS hB hU hW) (bw_gV h1 h2) rfl (by rw [hnA]; exact hd) hRm isC isR hC hR hnd hdis hnc k0 ci hc hq he hsize hstack hroom hdg hf (fun u H1 locs1 hp hP1 hD1 hS1 => kk u H1 locs1 hp (by rw [← hw]; exact hP1) (by rw [← hw]; exact hD1) hS1)
theorem r_callSi {post : Int32 → S → Prop} (F : CallFix p m c cc nL s args bw_T own) (hK : va_K G vwCl kt s) (hP : va_P G vwCl w0 H) (hD : va_D A w0) (hS : va_S A s.heap H locs) (hA : ∀ q : Nat, s.heap.size ≤ q → A q) (hO : bw_Ok E) (hE : E A s)
    (hM : bw_Ci l y (bw_ws (Cond.code y bytes maxL ret)) rm E G kt As wc post w') (h1 : Cond.methodLink own index y ∈ bw_T) (h2 : bw_KS own y (Cond.code y bytes maxL ret))
    (nA : Nat) (hnA : As.length = nA) (hd : y.cls = own ∧ y.cls ≠ "java/lang/invoke/MethodHandle" ∧ y.cls ≠ "java/lang/invoke/VarHandle" ∧ (parseMethodDescriptor y.desc).map (fun d => d.parameters.length) = some nA) (hRm : rm.frames + 1 ≤ R.frames ∧ 8 + (maxL + 11) + rm.locals ≤ R.locals)
    (isC isR : List Nat) (hC : isC.map (fun i => w0[i]?) = wc.map some) (hR : isR.map (fun i => w0[i]?) = wr.map some) (hnd : va_nd isR = true) (hdis : ∀ i ∈ isR, i ∉ isC) (hnc : va_nd isC = true)
    (hsize : ls.size = nL) (hstack : stk = As.reverse ++ rest) (hroom : (rest.map fun v => v.category).sum ≤ 8) (hdg : decode cc pc = .ok (.invokestatic index, 3)) (hf : cells + rm.cells ≤ R.cells ∧ slots + rm.slots ≤ R.slots) {w1 : S → va_W} (hw : ∀ u, wr ++ w' u = w1 u)
    (kk : ∀ (r : Int32) (u : S) (H1 : Heap) (locs1 : List Loc), post r u → va_P G vwCl (w1 u) H1 → va_D A (w1 u) → va_S A s.heap H1 locs1 → W p l e R s m args below meth c H1 locs1 (cells + rm.cells) (slots + rm.slots) Q (F0 m (pc + 3) ls (.int r :: rest))) : W p l e R s m args below meth c H locs cells slots Q (F0 m pc ls stk) :=
  bw_callSi F hK hP hD hS hA hM hO.1 (fun hB U hU hW => hO.2 A _ s U H locs hE hS hB hU hW) (bw_gS h1 h2) rfl (by rw [hnA]; exact hd) hRm isC isR hC hR hnd hdis hnc hsize hstack hroom hdg hf (fun r u H1 locs1 hp hP1 hD1 hS1 => kk r u H1 locs1 hp (by rw [← hw]; exact hP1) (by rw [← hw]; exact hD1) hS1)
theorem r_callIv {post : S → Prop} (F : CallFix p m c cc nL s args bw_T own) (hK : va_K G vwCl kt s) (hP : va_P G vwCl w0 H) (hD : va_D A w0) (hS : va_S A s.heap H locs) (hA : ∀ q : Nat, s.heap.size ≤ q → A q) (hO : bw_Ok E) (hE : E A s)
    (hM : bw_Cv l y (bw_ws (Cond.code y bytes maxL none)) rm E G kt (.ref b :: As) wc post w') (h1 : Cond.methodLink own index y ∈ bw_T) (h2 : bw_KI y.cls y (Cond.code y bytes maxL none)) (hy1 : y.name = "<init>")
    (nA : Nat) (hnA : As.length = nA) (hd : y.cls ≠ "java/lang/invoke/MethodHandle" ∧ y.cls ≠ "java/lang/invoke/VarHandle" ∧ (parseMethodDescriptor y.desc).map (fun d => d.parameters.length) = some nA) (hRm : rm.frames + 1 ≤ R.frames ∧ 8 + (maxL + 11) + rm.locals ≤ R.locals)
    (isC isR : List Nat) (hC : isC.map (fun i => w0[i]?) = wc.map some) (hR : isR.map (fun i => w0[i]?) = wr.map some) (hnd : va_nd isR = true) (hdis : ∀ i ∈ isR, i ∉ isC) (hnc : va_nd isC = true)
    (hsize : ls.size = nL) (hstack : stk = As.reverse ++ .ref b :: rest) (hroom : (rest.map fun v => v.category).sum ≤ 8) (hdg : decode cc pc = .ok (.invokespecial index, 3)) (hf : cells + rm.cells ≤ R.cells ∧ slots + rm.slots ≤ R.slots) {w1 : S → va_W} (hw : ∀ u, wr ++ w' u = w1 u)
    (kk : ∀ (u : S) (H1 : Heap) (locs1 : List Loc), post u → va_P G vwCl (w1 u) H1 → va_D A (w1 u) → va_S A s.heap H1 locs1 → W p l e R s m args below meth c H1 locs1 (cells + rm.cells) (slots + rm.slots) Q (F0 m (pc + 3) ls rest)) : W p l e R s m args below meth c H locs cells slots Q (F0 m pc ls stk) :=
  bw_callIv F hK hP hD hS hA hM hO.1 (fun hB U hU hW => hO.2 A _ s U H locs hE hS hB hU hW) (bw_g (bw_gc h2.2.2)) rfl (F.2.2.2.2 _ h2.2.1) (F.2.2.2.2 _ h1) (F.2.2.2.2 _ h2.1) hy1 (by rw [hnA]; exact hd) hRm isC isR hC hR hnd hdis hnc hsize hstack hroom hdg hf (fun u H1 locs1 hp hP1 hD1 hS1 => kk u H1 locs1 hp (by rw [← hw]; exact hP1) (by rw [← hw]; exact hD1) hS1)
theorem r_callNv {host : String} {post : S → Prop} (F : CallFix p m c cc nL s args bw_T own) (hK : va_K G vwCl kt s) (hP : va_P G vwCl w0 H) (hD : va_D A w0) (hS : va_S A s.heap H locs) (hA : ∀ q : Nat, s.heap.size ≤ q → A q) (hO : bw_Ok E) (hE : E A s)
    (hM : bw_Cv l y (bw_ws (Cond.code y bytes maxL none)) rm E G kt (.ref b :: As) wc post w') (h1 : va_Nw (.methodLinkNest own index y host) s) (h2 : bw_KI y.cls y (Cond.code y bytes maxL none)) (hy1 : y.name = "<init>")
    (nA : Nat) (hnA : As.length = nA) (hd : y.cls ≠ "java/lang/invoke/MethodHandle" ∧ y.cls ≠ "java/lang/invoke/VarHandle" ∧ (parseMethodDescriptor y.desc).map (fun d => d.parameters.length) = some nA) (hRm : rm.frames + 1 ≤ R.frames ∧ 8 + (maxL + 11) + rm.locals ≤ R.locals)
    (isC isR : List Nat) (hC : isC.map (fun i => w0[i]?) = wc.map some) (hR : isR.map (fun i => w0[i]?) = wr.map some) (hnd : va_nd isR = true) (hdis : ∀ i ∈ isR, i ∉ isC) (hnc : va_nd isC = true)
    (hsize : ls.size = nL) (hstack : stk = As.reverse ++ .ref b :: rest) (hroom : (rest.map fun v => v.category).sum ≤ 8) (hdg : decode cc pc = .ok (.invokespecial index, 3)) (hf : cells + rm.cells ≤ R.cells ∧ slots + rm.slots ≤ R.slots) {w1 : S → va_W} (hw : ∀ u, wr ++ w' u = w1 u)
    (kk : ∀ (u : S) (H1 : Heap) (locs1 : List Loc), post u → va_P G vwCl (w1 u) H1 → va_D A (w1 u) → va_S A s.heap H1 locs1 → W p l e R s m args below meth c H1 locs1 (cells + rm.cells) (slots + rm.slots) Q (F0 m (pc + 3) ls rest)) : W p l e R s m args below meth c H locs cells slots Q (F0 m pc ls stk) :=
  bw_callNv F hK hP hD hS hA hM hO.1 (fun hB U hU hW => hO.2 A _ s U H locs hE hS hB hU hW) (bw_g (bw_gc h2.2.2)) rfl (F.2.2.2.2 _ h2.2.1) h1 (F.2.2.2.2 _ h2.1) hy1 (by rw [hnA]; exact hd) hRm isC isR hC hR hnd hdis hnc hsize hstack hroom hdg hf (fun u H1 locs1 hp hP1 hD1 hS1 => kk u H1 locs1 hp (by rw [← hw]; exact hP1) (by rw [← hw]; exact hD1) hS1)
end RW
end
section
/-! calls of the JDK's own: a receiver that is known otherwise than by the world; static methods of another class; arrays of references -/
theorem bw_gX {own : String} {idx : Nat} {y : MethodName} {c : Cond} (h1 : Cond.methodLink own idx y ∈ bw_T) (h2 : bw_KS y.cls y c) : GoodIn bw_T (va_wsS own idx y (bw_ws c)) := by
  obtain ⟨a, b, d⟩ := h2
  refine bw_g (fun w hw => ?_)
  unfold va_wsS at hw
  rcases List.mem_append.mp hw with h | h
  · simp only [List.mem_cons, List.not_mem_nil, or_false] at h
    rcases h with rfl | rfl | rfl <;> assumption
  · exact bw_gc d w h
def bw_Str (sa va N : Nat) (f : Nat → Int32) (A : Nat → Prop) (U : State) (H : Heap) : Prop := va_O "java/lang/String" sa A U H ∧ va_OF "java/lang/String" "coder" "B" (.int 0) sa A U H ∧ va_OF "java/lang/String" "value" "[B" (.ref va) sa A U H ∧ va_T .byte va N (fun j => .int (f j)) A U H
theorem bw_cI (n : Nat) : ∀ cA : ClassId, vp_cell cA (n, .inl (fun _ => 0)) = arrV cA n (fun _ => defaultValue .int) := fun _ => rfl
theorem bw_cB (n : Nat) : ∀ cA : ClassId, vp_cell cA (n, .inl (fun _ => 0)) = arrV cA n (fun _ => defaultValue .byte) := fun _ => rfl
theorem bw_cJ (n : Nat) : ∀ cA : ClassId, vp_cell cA (n, .inr (.inl (fun _ => 0))) = arrV cA n (fun _ => defaultValue .long) := fun _ => rfl
theorem bw_by {N k : Nat} {ty : FieldType} (h : componentBytes ty = k) (h2 : N * k ≤ 536870912) : N * componentBytes ty ≤ 536870912 := by rw [h]; exact h2
section RX
variable {p : Program} {l : Launch} {e : Env} {R : Room} {s : State} {m : MethodId} {args : Array Value} {below : List Frame} {meth : Method} {c : Code} {H : Heap} {locs : List Loc} {cells slots : Nat} {Q : State → Prop}
variable {cc : ByteArray} {nL : Nat} {own : String} {G : va_G} {kt : List (ClassId × FieldType)} {w0 wc wr : va_W} {A : Nat → Prop} {S : Type} {y : MethodName} {rm : Room} {E : (Nat → Prop) → State → Prop} {As rest stk : List Value} {b a : Addr} {w' : S → va_W} {bytes : ByteArray} {maxL index pc : Nat} {ret : Option FieldType} {C ref : String} {ls : Array Slot} {fs : List Value} {T : u_T} {N ci : Nat}
/-- an int answer of an instance method; the receiver's class by a row of its own; the callee's world is empty -/
theorem r_callR {post : Int32 → S → Prop} (F : CallFix p m c cc nL s args bw_T own) (hK : va_K G vwCl kt s) (hP : va_P G vwCl w0 H) (hD : va_D A w0) (hS : va_S A s.heap H locs) (hA : ∀ q : Nat, s.heap.size ≤ q → A q) (hO : bw_Ok E) (hE : E A s)
    (hM : bw_Ci l y (bw_ws (Cond.code y bytes maxL ret)) rm E G kt (.ref b :: As) [] post (fun _ => [])) (h1 : Cond.methodLink own index y ∈ bw_T) (h2 : bw_KV C y (Cond.code y bytes maxL ret)) (nA : Nat) (hnA : As.length = nA)
    (hd : y.cls = C ∧ y.cls ≠ "java/lang/invoke/MethodHandle" ∧ y.cls ≠ "java/lang/invoke/VarHandle" ∧ (parseMethodDescriptor y.desc).map (fun d => d.parameters.length) = some nA) (hRm : rm.frames + 1 ≤ R.frames ∧ 8 + (maxL + 11) + rm.locals ≤ R.locals)
    (isR : List Nat) (hR : isR.map (fun i => w0[i]?) = w0.map some) (hnd : va_nd isR = true) (hrec : ∃ cell : Cell, H[b]? = some cell ∧ cell.vm.isStatics = false ∧ s.vm.findClass C = some cell.cls)
    (hsize : ls.size = nL) (hstack : stk = As.reverse ++ .ref b :: rest) (hroom : (rest.map fun v => v.category).sum ≤ 8) (hdg : decode cc pc = .ok (.invokevirtual index, 3)) (hf : cells + rm.cells ≤ R.cells ∧ slots + rm.slots ≤ R.slots)
    (kk : ∀ (r : Int32) (u : S) (H1 : Heap) (locs1 : List Loc), post r u → va_P G vwCl w0 H1 → va_D A w0 → va_S A s.heap H1 locs1 → W p l e R s m args below meth c H1 locs1 (cells + rm.cells) (slots + rm.slots) Q (F0 m (pc + 3) ls (.int r :: rest))) : W p l e R s m args below meth c H locs cells slots Q (F0 m pc ls stk) := by
  have hPc : va_P G vwCl [] H := fun k q h => by simp at h
  have hDc : va_D A [] := ⟨fun i j p q h => by simp at h, fun k q h => by simp at h⟩
  have hF := va_free (wc := []) hD hS hA [] rfl
  have hp := bw_Cv.hp (av := .ref b :: As) hO.1 hK hPc hDc (fun U hU hW => hO.2 A _ s U H locs hE hS hF hU hW)
  subst hnA
  exact bw_run_i (wc := []) (wr := w0) hP hD hS hA [] isR rfl hR hnd (fun _ _ h => by simp at h) (va_runV (As := As) F (hM H.size) (cwV As.length F.2.2.2.2 (bw_gV h1 h2) rfl rfl rfl hd hRm) ⟨hp.1, hrec, hp.2⟩ rfl rfl hsize hstack (lv_room (m := m) (pc := pc) (ls := ls) (rest := stk) hroom) hdg hf) (fun r u H1 locs1 hp hP1 hD1 hS1 => kk r u H1 locs1 hp (by simpa using hP1) (by simpa using hD1) hS1)
/-- a static method of any class, an int answer -/
theorem r_callXi {post : Int32 → S → Prop} (F : CallFix p m c cc nL s args bw_T own) (hK : va_K G vwCl kt s) (hP : va_P G vwCl w0 H) (hD : va_D A w0) (hS : va_S A s.heap H locs) (hA : ∀ q : Nat, s.heap.size ≤ q → A q) (hO : bw_Ok E) (hE : E A s)
    (hM : bw_Ci l y (bw_ws (Cond.code y bytes maxL ret)) rm E G kt As [] post (fun _ => [])) (h1 : Cond.methodLink own index y ∈ bw_T) (h2 : bw_KS y.cls y (Cond.code y bytes maxL ret)) (nA : Nat) (hnA : As.length = nA)
    (hd : y.cls ≠ "java/lang/invoke/MethodHandle" ∧ y.cls ≠ "java/lang/invoke/VarHandle" ∧ (parseMethodDescriptor y.desc).map (fun d => d.parameters.length) = some nA) (hRm : rm.frames + 1 ≤ R.frames ∧ 8 + (maxL + 11) + rm.locals ≤ R.locals)
    (isR : List Nat) (hR : isR.map (fun i => w0[i]?) = w0.map some) (hnd : va_nd isR = true)
    (hsize : ls.size = nL) (hstack : stk = As.reverse ++ rest) (hroom : (rest.map fun v => v.category).sum ≤ 8) (hdg : decode cc pc = .ok (.invokestatic index, 3)) (hf : cells + rm.cells ≤ R.cells ∧ slots + rm.slots ≤ R.slots)
    (kk : ∀ (r : Int32) (u : S) (H1 : Heap) (locs1 : List Loc), post r u → va_P G vwCl w0 H1 → va_D A w0 → va_S A s.heap H1 locs1 → W p l e R s m args below meth c H1 locs1 (cells + rm.cells) (slots + rm.slots) Q (F0 m (pc + 3) ls (.int r :: rest))) : W p l e R s m args below meth c H locs cells slots Q (F0 m pc ls stk) := by
  have hPc : va_P G vwCl [] H := fun k q h => by simp at h
  have hDc : va_D A [] := ⟨fun i j p q h => by simp at h, fun k q h => by simp at h⟩
  have hF := va_free (wc := []) hD hS hA [] rfl
  have hp := bw_Cv.hp (av := As) hO.1 hK hPc hDc (fun U hU hW => hO.2 A _ s U H locs hE hS hF hU hW)
  subst hnA
  exact bw_run_i (wc := []) (wr := w0) hP hD hS hA [] isR rfl hR hnd (fun _ _ h => by simp at h) (va_runS (As := As) F (hM H.size) (va_cwS As.length F.2.2.2.2 (bw_gX h1 h2) rfl rfl rfl hd hRm) hp rfl rfl hsize hstack (lv_room (m := m) (pc := pc) (ls := ls) (rest := stk) hroom) hdg hf) (fun r u H1 locs1 hp hP1 hD1 hS1 => kk r u H1 locs1 hp (by simpa using hP1) (by simpa using hD1) hS1)
theorem r_callXv {post : S → Prop} (F : CallFix p m c cc nL s args bw_T own) (hK : va_K G vwCl kt s) (hP : va_P G vwCl w0 H) (hD : va_D A w0) (hS : va_S A s.heap H locs) (hA : ∀ q : Nat, s.heap.size ≤ q → A q) (hO : bw_Ok E) (hE : E A s)
    (hM : bw_Cv l y (bw_ws (Cond.code y bytes maxL ret)) rm E G kt As [] post (fun _ => [])) (h1 : Cond.methodLink own index y ∈ bw_T) (h2 : bw_KS y.cls y (Cond.code y bytes maxL ret)) (nA : Nat) (hnA : As.length = nA)
    (hd : y.cls ≠ "java/lang/invoke/MethodHandle" ∧ y.cls ≠ "java/lang/invoke/VarHandle" ∧ (parseMethodDescriptor y.desc).map (fun d => d.parameters.length) = some nA) (hRm : rm.frames + 1 ≤ R.frames ∧ 8 + (maxL + 11) + rm.locals ≤ R.locals)
    (isR : List Nat) (hR : isR.map (fun i => w0[i]?) = w0.map some) (hnd : va_nd isR = true)
    (hsize : ls.size = nL) (hstack : stk = As.reverse ++ rest) (hroom : (rest.map fun v => v.category).sum ≤ 8) (hdg : decode cc pc = .ok (.invokestatic index, 3)) (hf : cells + rm.cells ≤ R.cells ∧ slots + rm.slots ≤ R.slots)
    (kk : ∀ (u : S) (H1 : Heap) (locs1 : List Loc), post u → va_P G vwCl w0 H1 → va_D A w0 → va_S A s.heap H1 locs1 → W p l e R s m args below meth c H1 locs1 (cells + rm.cells) (slots + rm.slots) Q (F0 m (pc + 3) ls rest)) : W p l e R s m args below meth c H locs cells slots Q (F0 m pc ls stk) := by
  have hPc : va_P G vwCl [] H := fun k q h => by simp at h
  have hDc : va_D A [] := ⟨fun i j p q h => by simp at h, fun k q h => by simp at h⟩
  have hF := va_free (wc := []) hD hS hA [] rfl
  have hp := bw_Cv.hp (av := As) hO.1 hK hPc hDc (fun U hU hW => hO.2 A _ s U H locs hE hS hF hU hW)
  subst hnA
  exact bw_run_v (wc := []) (wr := w0) hP hD hS hA [] isR rfl hR hnd (fun _ _ h => by simp at h) (va_runS (As := As) F (hM H.size) (va_cwS As.length F.2.2.2.2 (bw_gX h1 h2) rfl rfl rfl hd hRm) hp rfl rfl hsize hstack (lv_room (m := m) (pc := pc) (ls := ls) (rest := stk) hroom) hdg hf) (fun u H1 locs1 hp hP1 hD1 hS1 => kk u H1 locs1 hp (by simpa using hP1) (by simpa using hD1) hS1)
theorem r_newq (F : CallFix p m c cc nL s args bw_T own) (hcl : Cond.classLink own index C ∈ bw_T) (hov : va_AO C s) (hK : va_K G vwCl kt s) (hP : va_P G vwCl w0 H) (hD : va_D A w0) (hS : va_S A s.heap H locs) (hA : ∀ q : Nat, s.heap.size ≤ q → A q) (t0 : Nat) {cA : ClassId} (ht : kt[t0]? = some (cA, .object C))
    {n : Int32} (N' : Nat) (hn : ¬ n < 0) (hN : n.toNatClampNeg = N') (hbytes : N' * 4 ≤ 536870912) (hcells : cells + 1 ≤ R.cells) (hslots : slots + N' ≤ R.slots) (hdg : decode cc pc = .ok (.anewarray index, 3)) {w1 : Nat → va_W} (hw : ∀ q, w0 ++ [(q, .inl (cA, N', .inr (.inr (.inr (.inr (fun _ => none))))))] = w1 q)
    (kk : ∀ (q : Nat) (H1 : Heap), va_P G vwCl (w1 q) H1 → va_D A (w1 q) → va_S A s.heap H1 locs →
      W p l e R s m args below meth c H1 locs (cells + 1) (slots + N') Q (F0 m (pc + 3) ls (.ref q :: rest))) : W p l e R s m args below meth c H locs cells slots Q (F0 m pc ls (.int n :: rest)) := by
  refine va_newq F.1 F.2.1 F.2.2.2.1 (F.2.2.2.2 _ hcl) hov hK hP hD hS hA hn hN hbytes hcells hslots hdg (fun q c2 H1 hK1 hP1 hD1 hS1 => ?_)
  have e : c2 = cA := bw_same (ty := .object C) (c1 := c2) (c2 := cA) (t1 := kt.length) (t2 := t0) hK1 (by simp) (by rw [List.getElem?_append_left (List.getElem?_eq_some_iff.mp ht).1]; exact ht)
  subst e
  rw [hw] at hP1 hD1
  exact kk q H1 hP1 hD1 hS1
theorem r_astX (F : CallFix p m c cc nL s args bw_T own) (hK : va_K G vwCl kt s) (hP : va_P G vwCl w0 H) (hD : va_D A w0) (hS : va_S A s.heap H locs) (q0 t0 qk ci : Nat) {cA : ClassId} {r : vw_C} {n v : Nat} {vs : List Value} {f : Nat → Option Nat} (ha : w0[q0]? = some (a, .inl (cA, n, .inr (.inr (.inr (.inr f)))))) (ht : kt[t0]? = some (cA, .object r.1)) (hv : w0[qk]? = some (v, .inr (ci, vs))) (hc : vwCl[ci]? = some r) {i : Int32} (hi : vp_in i n) (hdg : decode cc pc = .ok (.aastore, 1)) {w1 : (Nat → Option Nat) → va_W} (hw : ∀ f', w0.set q0 (a, .inl (cA, n, .inr (.inr (.inr (.inr f'))))) = w1 f')
    (kk : ∀ (f' : Nat → Option Nat) (H1 : Heap) (locs1 : List Loc), va_P G vwCl (w1 f') H1 → va_D A (w1 f') → va_S A s.heap H1 locs1 → W p l e R s m args below meth c H1 locs1 cells slots Q (F0 m (pc + 1) ls rest)) : W p l e R s m args below meth c H locs cells slots Q (F0 m pc ls (.ref v :: .int i :: .ref a :: rest)) := by
  refine va_astq F.1 F.2.1 hK hP hD hS q0 t0 qk ci ha ht hv hc hi hdg (fun H1 locs1 hP1 hD1 hS1 => ?_)
  rw [hw] at hP1 hD1
  exact kk _ H1 locs1 hP1 hD1 hS1
theorem r_gets {C' n d : String} {v : Value} (F : CallFix p m c cc nL s args bw_T own) (hZ : va_Z C' n d v A s s.heap) (hS : va_S A s.heap H locs) (hl : Cond.fieldLink own index C' n d ∈ bw_T) (hdg : decode cc pc = .ok (.getstatic index, 3)) (kk : W p l e R s m args below meth c H locs cells slots Q (F0 m (pc + 3) ls (v :: rest))) : W p l e R s m args below meth c H locs cells slots Q (F0 m pc ls rest) :=
  va_gets F.1 F.2.1 hZ hS F.2.2.2.1 (F.2.2.2.2 _ hl) (fun _ h => h) hdg kk
theorem r_sget {o n d : String} {v : Value} {q : Nat} (F : CallFix p m c cc nL s args bw_T own) (hZ : va_OF o n d v q A s s.heap) (hS : va_S A s.heap H locs) (hl : Cond.fieldLink own index o n d ∈ bw_T) (hdg : decode cc pc = .ok (.getfield index, 3)) (kk : W p l e R s m args below meth c H locs cells slots Q (F0 m (pc + 3) ls (v :: rest))) : W p l e R s m args below meth c H locs cells slots Q (F0 m pc ls (.ref q :: rest)) :=
  vk_getf F.1 F.2.1 hZ hS F.2.2.2.1 (F.2.2.2.2 _ hl) (fun _ h => h) hdg kk
end RX
end
section
theorem dX2_untell_0 : decode cX2_untell 0 = .ok (.aload_n 0, 1) := by decide +kernel
theorem dX2_untell_1 : decode cX2_untell 1 = .ok (.getfield 15, 3) := by decide +kernel
theorem k_147 : Cond.fieldLink RX2 15 "BurntWays$Net" "goals" "[I" ∈ bw_T := bw_m 147 (by decide +kernel) rfl
theorem in_X2 : ∀ w ∈ wsX20, w ∈ bw_T := bw_ms _ [174, 176, 178, 180, 182, 184, 186, 188, 190] (by decide +kernel) (by decide +kernel)
theorem dX2_untell_4 : decode cX2_untell 4 = .ok (.iload_n 1, 1) := by decide +kernel
theorem dX2_untell_5 : decode cX2_untell 5 = .ok (.iconst (-1), 1) := by decide +kernel
theorem dX2_untell_6 : decode cX2_untell 6 = .ok (.iastore, 1) := by decide +kernel
theorem dX2_untell_7 : decode cX2_untell 7 = .ok (.aload_n 0, 1) := by decide +kernel
theorem dX2_untell_8 : decode cX2_untell 8 = .ok (.getfield 19, 3) := by decide +kernel
theorem k_150 : Cond.fieldLink RX2 19 "BurntWays$Net" "asked" "[I" ∈ bw_T := bw_m 150 (by decide +kernel) rfl
theorem dX2_untell_11 : decode cX2_untell 11 = .ok (.iload_n 1, 1) := by decide +kernel
theorem dX2_untell_12 : decode cX2_untell 12 = .ok (.bipush (-2), 2) := by decide +kernel
theorem dX2_untell_14 : decode cX2_untell 14 = .ok (.iastore, 1) := by decide +kernel
theorem dX2_untell_15 : decode cX2_untell 15 = .ok (.aload_n 0, 1) := by decide +kernel
theorem dX2_untell_16 : decode cX2_untell 16 = .ok (.getfield 22, 3) := by decide +kernel
theorem k_153 : Cond.fieldLink RX2 22 "BurntWays$Net" "actCounts" "[I" ∈ bw_T := bw_m 153 (by decide +kernel) rfl
theorem dX2_untell_19 : decode cX2_untell 19 = .ok (.iload_n 1, 1) := by decide +kernel
theorem dX2_untell_20 : decode cX2_untell 20 = .ok (.iconst 0, 1) := by decide +kernel
theorem dX2_untell_21 : decode cX2_untell 21 = .ok (.iastore, 1) := by decide +kernel
theorem dX2_untell_22 : decode cX2_untell 22 = .ok (.iconst 2, 1) := by decide +kernel
theorem dX2_untell_23 : decode cX2_untell 23 = .ok (.iload_n 1, 1) := by decide +kernel
theorem dX2_untell_24 : decode cX2_untell 24 = .ok (.imul, 1) := by decide +kernel
theorem dX2_untell_25 : decode cX2_untell 25 = .ok (.istore_n 2, 1) := by decide +kernel
theorem dX2_untell_26 : decode cX2_untell 26 = .ok (.iload_n 2, 1) := by decide +kernel
theorem dX2_untell_27 : decode cX2_untell 27 = .ok (.iconst 2, 1) := by decide +kernel
theorem dX2_untell_28 : decode cX2_untell 28 = .ok (.iload_n 1, 1) := by decide +kernel
theorem dX2_untell_29 : decode cX2_untell 29 = .ok (.imul, 1) := by decide +kernel
theorem dX2_untell_30 : decode cX2_untell 30 = .ok (.iconst 1, 1) := by decide +kernel
theorem dX2_untell_31 : decode cX2_untell 31 = .ok (.iadd, 1) := by decide +kernel
theorem dX2_untell_32 : decode cX2_untell 32 = .ok (.if_icmp .gt 24, 3) := by decide +kernel
theorem dX2_untell_35 : decode cX2_untell 35 = .ok (.aload_n 0, 1) := by decide +kernel
theorem dX2_untell_36 : decode cX2_untell 36 = .ok (.getfield 34, 3) := by decide +kernel
theorem k_165 : Cond.fieldLink RX2 34 "BurntWays$Net" "leads" "[I" ∈ bw_T := bw_m 165 (by decide +kernel) rfl
theorem dX2_untell_39 : decode cX2_untell 39 = .ok (.iload_n 2, 1) := by decide +kernel
theorem dX2_untell_40 : decode cX2_untell 40 = .ok (.bipush (-2), 2) := by decide +kernel
theorem dX2_untell_42 : decode cX2_untell 42 = .ok (.iastore, 1) := by decide +kernel
theorem dX2_untell_43 : decode cX2_untell 43 = .ok (.aload_n 0, 1) := by decide +kernel
theorem dX2_untell_44 : decode cX2_untell 44 = .ok (.getfield 37, 3) := by decide +kernel
theorem k_169 : Cond.fieldLink RX2 37 "BurntWays$Net" "laid" "[I" ∈ bw_T := bw_m 169 (by decide +kernel) rfl
theorem dX2_untell_47 : decode cX2_untell 47 = .ok (.iload_n 2, 1) := by decide +kernel
theorem dX2_untell_48 : decode cX2_untell 48 = .ok (.iconst 0, 1) := by decide +kernel
theorem dX2_untell_49 : decode cX2_untell 49 = .ok (.iastore, 1) := by decide +kernel
theorem dX2_untell_50 : decode cX2_untell 50 = .ok (.iinc 2 1, 3) := by decide +kernel
theorem dX2_untell_53 : decode cX2_untell 53 = .ok (.goto (-27), 3) := by decide +kernel
theorem dX2_untell_56 : decode cX2_untell 56 = .ok (.return_, 1) := by decide +kernel
abbrev rm_X2_untell_0 : Room := { frames := 0, cells := 0, slots := 0, locals := 0 }
set_option maxRecDepth 100000 in
set_option maxHeartbeats 4000000 in
theorem c_X2_untell_0 {l : Launch} {E : (Nat → Prop) → State → Prop} (hO : bw_Ok E) {G : va_G} {cI cB cJ cN cW : ClassId} (b : Nat) (q : Nat → Nat) (Lx : Int32) (f : Nat → Nat → Int32) : bw_Cv (S := bw_U) l yX2_untell (bw_ws (Cond.code yX2_untell cX2_untell 3 none)) rm_X2_untell_0 E G (bw_kt cI cB cJ cN cW) [.ref b, .int 0] [(b, .inr (2, [.int Lx, .ref (q 0), .ref (q 1), .ref (q 2), .ref (q 3), .ref (q 4), .ref (q 5), .ref (q 6), .ref (q 7)])), ((q 0), .inl (cI, 10, .inl (f 0))), ((q 1), .inl (cI, 10, .inl (f 1))), ((q 2), .inl (cI, 10, .inl (f 2))), ((q 6), .inl (cI, 20, .inl (f 3))), ((q 7), .inl (cI, 20, .inl (fun _ => 0)))] (fun _ => True) (fun u => [(b, .inr (2, [.int Lx, .ref (q 0), .ref (q 1), .ref (q 2), .ref (q 3), .ref (q 4), .ref (q 5), .ref (q 6), .ref (q 7)])), ((q 0), .inl (cI, 10, .inl (u.2 0))), ((q 1), .inl (cI, 10, .inl (u.2 1))), ((q 2), .inl (cI, 10, .inl (u.2 2))), ((q 6), .inl (cI, 20, .inl (u.2 3))), ((q 7), .inl (cI, 20, .inl (fun _ => 0)))]) := by
  refine bw_Cv.of (cc := cX2_untell) (maxL := 3) (by decide) rfl (Nat.le_of_ble_eq_true rfl) ?_
  intro p e s m below meth c A Q hx hb hml hts hown hin hK hA hS hP hD hE ret ls hl
  have F : CallFix p m c cX2_untell 3 s ([.ref b, .int 0] : List Value).toArray bw_T RX2 := ⟨hx, hb, hml, hown, fun w h => hts w (List.mem_cons_of_mem _ h)⟩
  have hl : lv_has ls 3 [(0, .ref b), (1, .int 0)] := hl
  refine lv_aload_n hx hb dX2_untell_0 rfl (lv_at hl 0 rfl) ?_
  refine r_get F hK hP 0 1 rfl rfl in_X2 (by decide) k_147 rfl dX2_untell_1 ?_
  refine lv_iload_n hx hb dX2_untell_4 rfl (lv_at hl 1 rfl) ?_
  refine lv_iconst (v := (-1)) hx hb dX2_untell_5 (by decide) ?_
  refine r_iastX F hK hP hD hS 1 0 rfl rfl (bw_vin (by decide)) dX2_untell_6 (w1 := fun f1 => [(b, .inr (2, [.int Lx, .ref (q 0), .ref (q 1), .ref (q 2), .ref (q 3), .ref (q 4), .ref (q 5), .ref (q 6), .ref (q 7)])), ((q 0), .inl (cI, 10, .inl f1)), ((q 1), .inl (cI, 10, .inl (f 1))), ((q 2), .inl (cI, 10, .inl (f 2))), ((q 6), .inl (cI, 20, .inl (f 3))), ((q 7), .inl (cI, 20, .inl (fun _ => 0)))]) (fun _ => rfl) (fun f1 H locs hP hD hS => ?_)
  refine lv_aload_n hx hb dX2_untell_7 rfl (lv_at hl 0 rfl) ?_
  refine r_get F hK hP 0 2 rfl rfl in_X2 (by decide) k_150 rfl dX2_untell_8 ?_
  refine lv_iload_n hx hb dX2_untell_11 rfl (lv_at hl 1 rfl) ?_
  refine lv_bipush (v := (-2)) hx hb dX2_untell_12 (by decide) ?_
  refine r_iastX F hK hP hD hS 2 0 rfl rfl (bw_vin (by decide)) dX2_untell_14 (w1 := fun f2 => [(b, .inr (2, [.int Lx, .ref (q 0), .ref (q 1), .ref (q 2), .ref (q 3), .ref (q 4), .ref (q 5), .ref (q 6), .ref (q 7)])), ((q 0), .inl (cI, 10, .inl f1)), ((q 1), .inl (cI, 10, .inl f2)), ((q 2), .inl (cI, 10, .inl (f 2))), ((q 6), .inl (cI, 20, .inl (f 3))), ((q 7), .inl (cI, 20, .inl (fun _ => 0)))]) (fun _ => rfl) (fun f2 H locs hP hD hS => ?_)
  refine lv_aload_n hx hb dX2_untell_15 rfl (lv_at hl 0 rfl) ?_
  refine r_get F hK hP 0 3 rfl rfl in_X2 (by decide) k_153 rfl dX2_untell_16 ?_
  refine lv_iload_n hx hb dX2_untell_19 rfl (lv_at hl 1 rfl) ?_
  refine lv_iconst (v := 0) hx hb dX2_untell_20 (by decide) ?_
  refine r_iastX F hK hP hD hS 3 0 rfl rfl (bw_vin (by decide)) dX2_untell_21 (w1 := fun f3 => [(b, .inr (2, [.int Lx, .ref (q 0), .ref (q 1), .ref (q 2), .ref (q 3), .ref (q 4), .ref (q 5), .ref (q 6), .ref (q 7)])), ((q 0), .inl (cI, 10, .inl f1)), ((q 1), .inl (cI, 10, .inl f2)), ((q 2), .inl (cI, 10, .inl f3)), ((q 6), .inl (cI, 20, .inl (f 3))), ((q 7), .inl (cI, 20, .inl (fun _ => 0)))]) (fun _ => rfl) (fun f3 H locs hP hD hS => ?_)
  refine lv_iconst (v := 2) hx hb dX2_untell_22 (by decide) ?_
  refine lv_iload_n hx hb dX2_untell_23 rfl (lv_at hl 1 rfl) ?_
  refine r_imul (v := 0) F dX2_untell_24 (by decide) ?_
  refine lv_istore_n (lv' := [(2, .int 0), (0, .ref b), (1, .int 0)]) hx hb dX2_untell_25 rfl hl (by decide) rfl (fun ls hl => ?_)
  refine lv_iload_n hx hb dX2_untell_26 rfl (lv_at hl 0 rfl) ?_
  refine lv_iconst (v := 2) hx hb dX2_untell_27 (by decide) ?_
  refine lv_iload_n hx hb dX2_untell_28 rfl (lv_at hl 2 rfl) ?_
  refine r_imul (v := 0) F dX2_untell_29 (by decide) ?_
  refine lv_iconst (v := 1) hx hb dX2_untell_30 (by decide) ?_
  refine r_iadd (v := 1) F dX2_untell_31 (by decide) ?_
  refine lv_icmp_gt (tgt := 56) hx hb dX2_untell_32 (by decide) (fun h9 => absurd h9 (by decide)) (fun _ => ?_)
  refine lv_aload_n hx hb dX2_untell_35 rfl (lv_at hl 1 rfl) ?_
  refine r_get F hK hP 0 7 rfl rfl in_X2 (by decide) k_165 rfl dX2_untell_36 ?_
  refine lv_iload_n hx hb dX2_untell_39 rfl (lv_at hl 0 rfl) ?_
  refine lv_bipush (v := (-2)) hx hb dX2_untell_40 (by decide) ?_
  refine r_iastX F hK hP hD hS 4 0 rfl rfl (bw_vin (by decide)) dX2_untell_42 (w1 := fun f4 => [(b, .inr (2, [.int Lx, .ref (q 0), .ref (q 1), .ref (q 2), .ref (q 3), .ref (q 4), .ref (q 5), .ref (q 6), .ref (q 7)])), ((q 0), .inl (cI, 10, .inl f1)), ((q 1), .inl (cI, 10, .inl f2)), ((q 2), .inl (cI, 10, .inl f3)), ((q 6), .inl (cI, 20, .inl f4)), ((q 7), .inl (cI, 20, .inl (fun _ => 0)))]) (fun _ => rfl) (fun f4 H locs hP hD hS => ?_)
  refine lv_aload_n hx hb dX2_untell_43 rfl (lv_at hl 1 rfl) ?_
  refine r_get F hK hP 0 8 rfl rfl in_X2 (by decide) k_169 rfl dX2_untell_44 ?_
  refine lv_iload_n hx hb dX2_untell_47 rfl (lv_at hl 0 rfl) ?_
  refine lv_iconst (v := 0) hx hb dX2_untell_48 (by decide) ?_
  refine r_iast F hK hP hD hS 5 0 rfl rfl (bw_vin (by decide)) dX2_untell_49 bw_upd0 (w1 := [(b, .inr (2, [.int Lx, .ref (q 0), .ref (q 1), .ref (q 2), .ref (q 3), .ref (q 4), .ref (q 5), .ref (q 6), .ref (q 7)])), ((q 0), .inl (cI, 10, .inl f1)), ((q 1), .inl (cI, 10, .inl f2)), ((q 2), .inl (cI, 10, .inl f3)), ((q 6), .inl (cI, 20, .inl f4)), ((q 7), .inl (cI, 20, .inl (fun _ => 0)))]) rfl (fun H locs hP hD hS => ?_)
  refine lv_iinc (v := 1) (lv' := [(2, .int 1), (0, .ref b), (1, .int 0)]) hx hb dX2_untell_50 hl (k := 0) rfl (by decide) (by decide) rfl (fun ls hl => ?_)
  refine lv_goto (tgt := 26) hx hb dX2_untell_53 (by decide) ?_
  refine lv_iload_n hx hb dX2_untell_26 rfl (lv_at hl 0 rfl) ?_
  refine lv_iconst (v := 2) hx hb dX2_untell_27 (by decide) ?_
  refine lv_iload_n hx hb dX2_untell_28 rfl (lv_at hl 2 rfl) ?_
  refine r_imul (v := 0) F dX2_untell_29 (by decide) ?_
  refine lv_iconst (v := 1) hx hb dX2_untell_30 (by decide) ?_
  refine r_iadd (v := 1) F dX2_untell_31 (by decide) ?_
  refine lv_icmp_gt (tgt := 56) hx hb dX2_untell_32 (by decide) (fun h9 => absurd h9 (by decide)) (fun _ => ?_)
  refine lv_aload_n hx hb dX2_untell_35 rfl (lv_at hl 1 rfl) ?_
  refine r_get F hK hP 0 7 rfl rfl in_X2 (by decide) k_165 rfl dX2_untell_36 ?_
  refine lv_iload_n hx hb dX2_untell_39 rfl (lv_at hl 0 rfl) ?_
  refine lv_bipush (v := (-2)) hx hb dX2_untell_40 (by decide) ?_
  refine r_iastX F hK hP hD hS 4 0 rfl rfl (bw_vin (by decide)) dX2_untell_42 (w1 := fun f5 => [(b, .inr (2, [.int Lx, .ref (q 0), .ref (q 1), .ref (q 2), .ref (q 3), .ref (q 4), .ref (q 5), .ref (q 6), .ref (q 7)])), ((q 0), .inl (cI, 10, .inl f1)), ((q 1), .inl (cI, 10, .inl f2)), ((q 2), .inl (cI, 10, .inl f3)), ((q 6), .inl (cI, 20, .inl f5)), ((q 7), .inl (cI, 20, .inl (fun _ => 0)))]) (fun _ => rfl) (fun f5 H locs hP hD hS => ?_)
  refine lv_aload_n hx hb dX2_untell_43 rfl (lv_at hl 1 rfl) ?_
  refine r_get F hK hP 0 8 rfl rfl in_X2 (by decide) k_169 rfl dX2_untell_44 ?_
  refine lv_iload_n hx hb dX2_untell_47 rfl (lv_at hl 0 rfl) ?_
  refine lv_iconst (v := 0) hx hb dX2_untell_48 (by decide) ?_
  refine r_iast F hK hP hD hS 5 0 rfl rfl (bw_vin (by decide)) dX2_untell_49 bw_upd0 (w1 := [(b, .inr (2, [.int Lx, .ref (q 0), .ref (q 1), .ref (q 2), .ref (q 3), .ref (q 4), .ref (q 5), .ref (q 6), .ref (q 7)])), ((q 0), .inl (cI, 10, .inl f1)), ((q 1), .inl (cI, 10, .inl f2)), ((q 2), .inl (cI, 10, .inl f3)), ((q 6), .inl (cI, 20, .inl f5)), ((q 7), .inl (cI, 20, .inl (fun _ => 0)))]) rfl (fun H locs hP hD hS => ?_)
  refine lv_iinc (v := 2) (lv' := [(2, .int 2), (0, .ref b), (1, .int 0)]) hx hb dX2_untell_50 hl (k := 0) rfl (by decide) (by decide) rfl (fun ls hl => ?_)
  refine lv_goto (tgt := 26) hx hb dX2_untell_53 (by decide) ?_
  refine lv_iload_n hx hb dX2_untell_26 rfl (lv_at hl 0 rfl) ?_
  refine lv_iconst (v := 2) hx hb dX2_untell_27 (by decide) ?_
  refine lv_iload_n hx hb dX2_untell_28 rfl (lv_at hl 2 rfl) ?_
  refine r_imul (v := 0) F dX2_untell_29 (by decide) ?_
  refine lv_iconst (v := 1) hx hb dX2_untell_30 (by decide) ?_
  refine r_iadd (v := 1) F dX2_untell_31 (by decide) ?_
  refine lv_icmp_gt (tgt := 56) hx hb dX2_untell_32 (by decide) (fun _ => ?_) (fun h9 => absurd (by decide) h9)
  exact ret (fun _ => 0, (fun k => [f1, f2, f3, f5].getD k (fun _ => 0))) _ _ _ _ _ _ trivial (bw_subP (isC := [0, 1, 2, 3, 4, 5]) hP rfl) (hD.sub [0, 1, 2, 3, 4, 5] (by decide) rfl) hS (Nat.le_of_ble_eq_true rfl) (Nat.le_of_ble_eq_true rfl) dX2_untell_56
abbrev rm_X2_untell_1 : Room := { frames := 0, cells := 0, slots := 0, locals := 0 }
set_option maxRecDepth 100000 in
set_option maxHeartbeats 4000000 in
theorem c_X2_untell_1 {l : Launch} {E : (Nat → Prop) → State → Prop} (hO : bw_Ok E) {G : va_G} {cI cB cJ cN cW : ClassId} (b : Nat) (q : Nat → Nat) (Lx : Int32) (f : Nat → Nat → Int32) : bw_Cv (S := bw_U) l yX2_untell (bw_ws (Cond.code yX2_untell cX2_untell 3 none)) rm_X2_untell_1 E G (bw_kt cI cB cJ cN cW) [.ref b, .int 1] [(b, .inr (2, [.int Lx, .ref (q 0), .ref (q 1), .ref (q 2), .ref (q 3), .ref (q 4), .ref (q 5), .ref (q 6), .ref (q 7)])), ((q 0), .inl (cI, 10, .inl (f 0))), ((q 1), .inl (cI, 10, .inl (f 1))), ((q 2), .inl (cI, 10, .inl (f 2))), ((q 6), .inl (cI, 20, .inl (f 3))), ((q 7), .inl (cI, 20, .inl (fun _ => 0)))] (fun _ => True) (fun u => [(b, .inr (2, [.int Lx, .ref (q 0), .ref (q 1), .ref (q 2), .ref (q 3), .ref (q 4), .ref (q 5), .ref (q 6), .ref (q 7)])), ((q 0), .inl (cI, 10, .inl (u.2 0))), ((q 1), .inl (cI, 10, .inl (u.2 1))), ((q 2), .inl (cI, 10, .inl (u.2 2))), ((q 6), .inl (cI, 20, .inl (u.2 3))), ((q 7), .inl (cI, 20, .inl (fun _ => 0)))]) := by
  refine bw_Cv.of (cc := cX2_untell) (maxL := 3) (by decide) rfl (Nat.le_of_ble_eq_true rfl) ?_
  intro p e s m below meth c A Q hx hb hml hts hown hin hK hA hS hP hD hE ret ls hl
  have F : CallFix p m c cX2_untell 3 s ([.ref b, .int 1] : List Value).toArray bw_T RX2 := ⟨hx, hb, hml, hown, fun w h => hts w (List.mem_cons_of_mem _ h)⟩
  have hl : lv_has ls 3 [(0, .ref b), (1, .int 1)] := hl
  refine lv_aload_n hx hb dX2_untell_0 rfl (lv_at hl 0 rfl) ?_
  refine r_get F hK hP 0 1 rfl rfl in_X2 (by decide) k_147 rfl dX2_untell_1 ?_
  refine lv_iload_n hx hb dX2_untell_4 rfl (lv_at hl 1 rfl) ?_
  refine lv_iconst (v := (-1)) hx hb dX2_untell_5 (by decide) ?_
  refine r_iastX F hK hP hD hS 1 0 rfl rfl (bw_vin (by decide)) dX2_untell_6 (w1 := fun f1 => [(b, .inr (2, [.int Lx, .ref (q 0), .ref (q 1), .ref (q 2), .ref (q 3), .ref (q 4), .ref (q 5), .ref (q 6), .ref (q 7)])), ((q 0), .inl (cI, 10, .inl f1)), ((q 1), .inl (cI, 10, .inl (f 1))), ((q 2), .inl (cI, 10, .inl (f 2))), ((q 6), .inl (cI, 20, .inl (f 3))), ((q 7), .inl (cI, 20, .inl (fun _ => 0)))]) (fun _ => rfl) (fun f1 H locs hP hD hS => ?_)
  refine lv_aload_n hx hb dX2_untell_7 rfl (lv_at hl 0 rfl) ?_
  refine r_get F hK hP 0 2 rfl rfl in_X2 (by decide) k_150 rfl dX2_untell_8 ?_
  refine lv_iload_n hx hb dX2_untell_11 rfl (lv_at hl 1 rfl) ?_
  refine lv_bipush (v := (-2)) hx hb dX2_untell_12 (by decide) ?_
  refine r_iastX F hK hP hD hS 2 0 rfl rfl (bw_vin (by decide)) dX2_untell_14 (w1 := fun f2 => [(b, .inr (2, [.int Lx, .ref (q 0), .ref (q 1), .ref (q 2), .ref (q 3), .ref (q 4), .ref (q 5), .ref (q 6), .ref (q 7)])), ((q 0), .inl (cI, 10, .inl f1)), ((q 1), .inl (cI, 10, .inl f2)), ((q 2), .inl (cI, 10, .inl (f 2))), ((q 6), .inl (cI, 20, .inl (f 3))), ((q 7), .inl (cI, 20, .inl (fun _ => 0)))]) (fun _ => rfl) (fun f2 H locs hP hD hS => ?_)
  refine lv_aload_n hx hb dX2_untell_15 rfl (lv_at hl 0 rfl) ?_
  refine r_get F hK hP 0 3 rfl rfl in_X2 (by decide) k_153 rfl dX2_untell_16 ?_
  refine lv_iload_n hx hb dX2_untell_19 rfl (lv_at hl 1 rfl) ?_
  refine lv_iconst (v := 0) hx hb dX2_untell_20 (by decide) ?_
  refine r_iastX F hK hP hD hS 3 0 rfl rfl (bw_vin (by decide)) dX2_untell_21 (w1 := fun f3 => [(b, .inr (2, [.int Lx, .ref (q 0), .ref (q 1), .ref (q 2), .ref (q 3), .ref (q 4), .ref (q 5), .ref (q 6), .ref (q 7)])), ((q 0), .inl (cI, 10, .inl f1)), ((q 1), .inl (cI, 10, .inl f2)), ((q 2), .inl (cI, 10, .inl f3)), ((q 6), .inl (cI, 20, .inl (f 3))), ((q 7), .inl (cI, 20, .inl (fun _ => 0)))]) (fun _ => rfl) (fun f3 H locs hP hD hS => ?_)
  refine lv_iconst (v := 2) hx hb dX2_untell_22 (by decide) ?_
  refine lv_iload_n hx hb dX2_untell_23 rfl (lv_at hl 1 rfl) ?_
  refine r_imul (v := 2) F dX2_untell_24 (by decide) ?_
  refine lv_istore_n (lv' := [(2, .int 2), (0, .ref b), (1, .int 1)]) hx hb dX2_untell_25 rfl hl (by decide) rfl (fun ls hl => ?_)
  refine lv_iload_n hx hb dX2_untell_26 rfl (lv_at hl 0 rfl) ?_
  refine lv_iconst (v := 2) hx hb dX2_untell_27 (by decide) ?_
  refine lv_iload_n hx hb dX2_untell_28 rfl (lv_at hl 2 rfl) ?_
  refine r_imul (v := 2) F dX2_untell_29 (by decide) ?_
  refine lv_iconst (v := 1) hx hb dX2_untell_30 (by decide) ?_
  refine r_iadd (v := 3) F dX2_untell_31 (by decide) ?_
  refine lv_icmp_gt (tgt := 56) hx hb dX2_untell_32 (by decide) (fun h9 => absurd h9 (by decide)) (fun _ => ?_)
  refine lv_aload_n hx hb dX2_untell_35 rfl (lv_at hl 1 rfl) ?_
  refine r_get F hK hP 0 7 rfl rfl in_X2 (by decide) k_165 rfl dX2_untell_36 ?_
  refine lv_iload_n hx hb dX2_untell_39 rfl (lv_at hl 0 rfl) ?_
  refine lv_bipush (v := (-2)) hx hb dX2_untell_40 (by decide) ?_
  refine r_iastX F hK hP hD hS 4 0 rfl rfl (bw_vin (by decide)) dX2_untell_42 (w1 := fun f4 => [(b, .inr (2, [.int Lx, .ref (q 0), .ref (q 1), .ref (q 2), .ref (q 3), .ref (q 4), .ref (q 5), .ref (q 6), .ref (q 7)])), ((q 0), .inl (cI, 10, .inl f1)), ((q 1), .inl (cI, 10, .inl f2)), ((q 2), .inl (cI, 10, .inl f3)), ((q 6), .inl (cI, 20, .inl f4)), ((q 7), .inl (cI, 20, .inl (fun _ => 0)))]) (fun _ => rfl) (fun f4 H locs hP hD hS => ?_)
  refine lv_aload_n hx hb dX2_untell_43 rfl (lv_at hl 1 rfl) ?_
  refine r_get F hK hP 0 8 rfl rfl in_X2 (by decide) k_169 rfl dX2_untell_44 ?_
  refine lv_iload_n hx hb dX2_untell_47 rfl (lv_at hl 0 rfl) ?_
  refine lv_iconst (v := 0) hx hb dX2_untell_48 (by decide) ?_
  refine r_iast F hK hP hD hS 5 0 rfl rfl (bw_vin (by decide)) dX2_untell_49 bw_upd0 (w1 := [(b, .inr (2, [.int Lx, .ref (q 0), .ref (q 1), .ref (q 2), .ref (q 3), .ref (q 4), .ref (q 5), .ref (q 6), .ref (q 7)])), ((q 0), .inl (cI, 10, .inl f1)), ((q 1), .inl (cI, 10, .inl f2)), ((q 2), .inl (cI, 10, .inl f3)), ((q 6), .inl (cI, 20, .inl f4)), ((q 7), .inl (cI, 20, .inl (fun _ => 0)))]) rfl (fun H locs hP hD hS => ?_)
  refine lv_iinc (v := 3) (lv' := [(2, .int 3), (0, .ref b), (1, .int 1)]) hx hb dX2_untell_50 hl (k := 0) rfl (by decide) (by decide) rfl (fun ls hl => ?_)
  refine lv_goto (tgt := 26) hx hb dX2_untell_53 (by decide) ?_
  refine lv_iload_n hx hb dX2_untell_26 rfl (lv_at hl 0 rfl) ?_
  refine lv_iconst (v := 2) hx hb dX2_untell_27 (by decide) ?_
  refine lv_iload_n hx hb dX2_untell_28 rfl (lv_at hl 2 rfl) ?_
  refine r_imul (v := 2) F dX2_untell_29 (by decide) ?_
  refine lv_iconst (v := 1) hx hb dX2_untell_30 (by decide) ?_
  refine r_iadd (v := 3) F dX2_untell_31 (by decide) ?_
  refine lv_icmp_gt (tgt := 56) hx hb dX2_untell_32 (by decide) (fun h9 => absurd h9 (by decide)) (fun _ => ?_)
  refine lv_aload_n hx hb dX2_untell_35 rfl (lv_at hl 1 rfl) ?_
  refine r_get F hK hP 0 7 rfl rfl in_X2 (by decide) k_165 rfl dX2_untell_36 ?_
  refine lv_iload_n hx hb dX2_untell_39 rfl (lv_at hl 0 rfl) ?_
  refine lv_bipush (v := (-2)) hx hb dX2_untell_40 (by decide) ?_
  refine r_iastX F hK hP hD hS 4 0 rfl rfl (bw_vin (by decide)) dX2_untell_42 (w1 := fun f5 => [(b, .inr (2, [.int Lx, .ref (q 0), .ref (q 1), .ref (q 2), .ref (q 3), .ref (q 4), .ref (q 5), .ref (q 6), .ref (q 7)])), ((q 0), .inl (cI, 10, .inl f1)), ((q 1), .inl (cI, 10, .inl f2)), ((q 2), .inl (cI, 10, .inl f3)), ((q 6), .inl (cI, 20, .inl f5)), ((q 7), .inl (cI, 20, .inl (fun _ => 0)))]) (fun _ => rfl) (fun f5 H locs hP hD hS => ?_)
  refine lv_aload_n hx hb dX2_untell_43 rfl (lv_at hl 1 rfl) ?_
  refine r_get F hK hP 0 8 rfl rfl in_X2 (by decide) k_169 rfl dX2_untell_44 ?_
  refine lv_iload_n hx hb dX2_untell_47 rfl (lv_at hl 0 rfl) ?_
  refine lv_iconst (v := 0) hx hb dX2_untell_48 (by decide) ?_
  refine r_iast F hK hP hD hS 5 0 rfl rfl (bw_vin (by decide)) dX2_untell_49 bw_upd0 (w1 := [(b, .inr (2, [.int Lx, .ref (q 0), .ref (q 1), .ref (q 2), .ref (q 3), .ref (q 4), .ref (q 5), .ref (q 6), .ref (q 7)])), ((q 0), .inl (cI, 10, .inl f1)), ((q 1), .inl (cI, 10, .inl f2)), ((q 2), .inl (cI, 10, .inl f3)), ((q 6), .inl (cI, 20, .inl f5)), ((q 7), .inl (cI, 20, .inl (fun _ => 0)))]) rfl (fun H locs hP hD hS => ?_)
  refine lv_iinc (v := 4) (lv' := [(2, .int 4), (0, .ref b), (1, .int 1)]) hx hb dX2_untell_50 hl (k := 0) rfl (by decide) (by decide) rfl (fun ls hl => ?_)
  refine lv_goto (tgt := 26) hx hb dX2_untell_53 (by decide) ?_
  refine lv_iload_n hx hb dX2_untell_26 rfl (lv_at hl 0 rfl) ?_
  refine lv_iconst (v := 2) hx hb dX2_untell_27 (by decide) ?_
  refine lv_iload_n hx hb dX2_untell_28 rfl (lv_at hl 2 rfl) ?_
  refine r_imul (v := 2) F dX2_untell_29 (by decide) ?_
  refine lv_iconst (v := 1) hx hb dX2_untell_30 (by decide) ?_
  refine r_iadd (v := 3) F dX2_untell_31 (by decide) ?_
  refine lv_icmp_gt (tgt := 56) hx hb dX2_untell_32 (by decide) (fun _ => ?_) (fun h9 => absurd (by decide) h9)
  exact ret (fun _ => 0, (fun k => [f1, f2, f3, f5].getD k (fun _ => 0))) _ _ _ _ _ _ trivial (bw_subP (isC := [0, 1, 2, 3, 4, 5]) hP rfl) (hD.sub [0, 1, 2, 3, 4, 5] (by decide) rfl) hS (Nat.le_of_ble_eq_true rfl) (Nat.le_of_ble_eq_true rfl) dX2_untell_56
abbrev rm_X2_untell_2 : Room := { frames := 0, cells := 0, slots := 0, locals := 0 }
set_option maxRecDepth 100000 in
set_option maxHeartbeats 4000000 in
theorem c_X2_untell_2 {l : Launch} {E : (Nat → Prop) → State → Prop} (hO : bw_Ok E) {G : va_G} {cI cB cJ cN cW : ClassId} (b : Nat) (q : Nat → Nat) (Lx : Int32) (f : Nat → Nat → Int32) : bw_Cv (S := bw_U) l yX2_untell (bw_ws (Cond.code yX2_untell cX2_untell 3 none)) rm_X2_untell_2 E G (bw_kt cI cB cJ cN cW) [.ref b, .int 2] [(b, .inr (2, [.int Lx, .ref (q 0), .ref (q 1), .ref (q 2), .ref (q 3), .ref (q 4), .ref (q 5), .ref (q 6), .ref (q 7)])), ((q 0), .inl (cI, 10, .inl (f 0))), ((q 1), .inl (cI, 10, .inl (f 1))), ((q 2), .inl (cI, 10, .inl (f 2))), ((q 6), .inl (cI, 20, .inl (f 3))), ((q 7), .inl (cI, 20, .inl (fun _ => 0)))] (fun _ => True) (fun u => [(b, .inr (2, [.int Lx, .ref (q 0), .ref (q 1), .ref (q 2), .ref (q 3), .ref (q 4), .ref (q 5), .ref (q 6), .ref (q 7)])), ((q 0), .inl (cI, 10, .inl (u.2 0))), ((q 1), .inl (cI, 10, .inl (u.2 1))), ((q 2), .inl (cI, 10, .inl (u.2 2))), ((q 6), .inl (cI, 20, .inl (u.2 3))), ((q 7), .inl (cI, 20, .inl (fun _ => 0)))]) := by
  refine bw_Cv.of (cc := cX2_untell) (maxL := 3) (by decide) rfl (Nat.le_of_ble_eq_true rfl) ?_
  intro p e s m below meth c A Q hx hb hml hts hown hin hK hA hS hP hD hE ret ls hl
  have F : CallFix p m c cX2_untell 3 s ([.ref b, .int 2] : List Value).toArray bw_T RX2 := ⟨hx, hb, hml, hown, fun w h => hts w (List.mem_cons_of_mem _ h)⟩
  have hl : lv_has ls 3 [(0, .ref b), (1, .int 2)] := hl
  refine lv_aload_n hx hb dX2_untell_0 rfl (lv_at hl 0 rfl) ?_
  refine r_get F hK hP 0 1 rfl rfl in_X2 (by decide) k_147 rfl dX2_untell_1 ?_
  refine lv_iload_n hx hb dX2_untell_4 rfl (lv_at hl 1 rfl) ?_
  refine lv_iconst (v := (-1)) hx hb dX2_untell_5 (by decide) ?_
  refine r_iastX F hK hP hD hS 1 0 rfl rfl (bw_vin (by decide)) dX2_untell_6 (w1 := fun f1 => [(b, .inr (2, [.int Lx, .ref (q 0), .ref (q 1), .ref (q 2), .ref (q 3), .ref (q 4), .ref (q 5), .ref (q 6), .ref (q 7)])), ((q 0), .inl (cI, 10, .inl f1)), ((q 1), .inl (cI, 10, .inl (f 1))), ((q 2), .inl (cI, 10, .inl (f 2))), ((q 6), .inl (cI, 20, .inl (f 3))), ((q 7), .inl (cI, 20, .inl (fun _ => 0)))]) (fun _ => rfl) (fun f1 H locs hP hD hS => ?_)
  refine lv_aload_n hx hb dX2_untell_7 rfl (lv_at hl 0 rfl) ?_
  refine r_get F hK hP 0 2 rfl rfl in_X2 (by decide) k_150 rfl dX2_untell_8 ?_
  refine lv_iload_n hx hb dX2_untell_11 rfl (lv_at hl 1 rfl) ?_
  refine lv_bipush (v := (-2)) hx hb dX2_untell_12 (by decide) ?_
  refine r_iastX F hK hP hD hS 2 0 rfl rfl (bw_vin (by decide)) dX2_untell_14 (w1 := fun f2 => [(b, .inr (2, [.int Lx, .ref (q 0), .ref (q 1), .ref (q 2), .ref (q 3), .ref (q 4), .ref (q 5), .ref (q 6), .ref (q 7)])), ((q 0), .inl (cI, 10, .inl f1)), ((q 1), .inl (cI, 10, .inl f2)), ((q 2), .inl (cI, 10, .inl (f 2))), ((q 6), .inl (cI, 20, .inl (f 3))), ((q 7), .inl (cI, 20, .inl (fun _ => 0)))]) (fun _ => rfl) (fun f2 H locs hP hD hS => ?_)
  refine lv_aload_n hx hb dX2_untell_15 rfl (lv_at hl 0 rfl) ?_
  refine r_get F hK hP 0 3 rfl rfl in_X2 (by decide) k_153 rfl dX2_untell_16 ?_
  refine lv_iload_n hx hb dX2_untell_19 rfl (lv_at hl 1 rfl) ?_
  refine lv_iconst (v := 0) hx hb dX2_untell_20 (by decide) ?_
  refine r_iastX F hK hP hD hS 3 0 rfl rfl (bw_vin (by decide)) dX2_untell_21 (w1 := fun f3 => [(b, .inr (2, [.int Lx, .ref (q 0), .ref (q 1), .ref (q 2), .ref (q 3), .ref (q 4), .ref (q 5), .ref (q 6), .ref (q 7)])), ((q 0), .inl (cI, 10, .inl f1)), ((q 1), .inl (cI, 10, .inl f2)), ((q 2), .inl (cI, 10, .inl f3)), ((q 6), .inl (cI, 20, .inl (f 3))), ((q 7), .inl (cI, 20, .inl (fun _ => 0)))]) (fun _ => rfl) (fun f3 H locs hP hD hS => ?_)
  refine lv_iconst (v := 2) hx hb dX2_untell_22 (by decide) ?_
  refine lv_iload_n hx hb dX2_untell_23 rfl (lv_at hl 1 rfl) ?_
  refine r_imul (v := 4) F dX2_untell_24 (by decide) ?_
  refine lv_istore_n (lv' := [(2, .int 4), (0, .ref b), (1, .int 2)]) hx hb dX2_untell_25 rfl hl (by decide) rfl (fun ls hl => ?_)
  refine lv_iload_n hx hb dX2_untell_26 rfl (lv_at hl 0 rfl) ?_
  refine lv_iconst (v := 2) hx hb dX2_untell_27 (by decide) ?_
  refine lv_iload_n hx hb dX2_untell_28 rfl (lv_at hl 2 rfl) ?_
  refine r_imul (v := 4) F dX2_untell_29 (by decide) ?_
  refine lv_iconst (v := 1) hx hb dX2_untell_30 (by decide) ?_
  refine r_iadd (v := 5) F dX2_untell_31 (by decide) ?_
  refine lv_icmp_gt (tgt := 56) hx hb dX2_untell_32 (by decide) (fun h9 => absurd h9 (by decide)) (fun _ => ?_)
  refine lv_aload_n hx hb dX2_untell_35 rfl (lv_at hl 1 rfl) ?_
  refine r_get F hK hP 0 7 rfl rfl in_X2 (by decide) k_165 rfl dX2_untell_36 ?_
  refine lv_iload_n hx hb dX2_untell_39 rfl (lv_at hl 0 rfl) ?_
  refine lv_bipush (v := (-2)) hx hb dX2_untell_40 (by decide) ?_
  refine r_iastX F hK hP hD hS 4 0 rfl rfl (bw_vin (by decide)) dX2_untell_42 (w1 := fun f4 => [(b, .inr (2, [.int Lx, .ref (q 0), .ref (q 1), .ref (q 2), .ref (q 3), .ref (q 4), .ref (q 5), .ref (q 6), .ref (q 7)])), ((q 0), .inl (cI, 10, .inl f1)), ((q 1), .inl (cI, 10, .inl f2)), ((q 2), .inl (cI, 10, .inl f3)), ((q 6), .inl (cI, 20, .inl f4)), ((q 7), .inl (cI, 20, .inl (fun _ => 0)))]) (fun _ => rfl) (fun f4 H locs hP hD hS => ?_)
  refine lv_aload_n hx hb dX2_untell_43 rfl (lv_at hl 1 rfl) ?_
  refine r_get F hK hP 0 8 rfl rfl in_X2 (by decide) k_169 rfl dX2_untell_44 ?_
  refine lv_iload_n hx hb dX2_untell_47 rfl (lv_at hl 0 rfl) ?_
  refine lv_iconst (v := 0) hx hb dX2_untell_48 (by decide) ?_
  refine r_iast F hK hP hD hS 5 0 rfl rfl (bw_vin (by decide)) dX2_untell_49 bw_upd0 (w1 := [(b, .inr (2, [.int Lx, .ref (q 0), .ref (q 1), .ref (q 2), .ref (q 3), .ref (q 4), .ref (q 5), .ref (q 6), .ref (q 7)])), ((q 0), .inl (cI, 10, .inl f1)), ((q 1), .inl (cI, 10, .inl f2)), ((q 2), .inl (cI, 10, .inl f3)), ((q 6), .inl (cI, 20, .inl f4)), ((q 7), .inl (cI, 20, .inl (fun _ => 0)))]) rfl (fun H locs hP hD hS => ?_)
  refine lv_iinc (v := 5) (lv' := [(2, .int 5), (0, .ref b), (1, .int 2)]) hx hb dX2_untell_50 hl (k := 0) rfl (by decide) (by decide) rfl (fun ls hl => ?_)
  refine lv_goto (tgt := 26) hx hb dX2_untell_53 (by decide) ?_
  refine lv_iload_n hx hb dX2_untell_26 rfl (lv_at hl 0 rfl) ?_
  refine lv_iconst (v := 2) hx hb dX2_untell_27 (by decide) ?_
  refine lv_iload_n hx hb dX2_untell_28 rfl (lv_at hl 2 rfl) ?_
  refine r_imul (v := 4) F dX2_untell_29 (by decide) ?_
  refine lv_iconst (v := 1) hx hb dX2_untell_30 (by decide) ?_
  refine r_iadd (v := 5) F dX2_untell_31 (by decide) ?_
  refine lv_icmp_gt (tgt := 56) hx hb dX2_untell_32 (by decide) (fun h9 => absurd h9 (by decide)) (fun _ => ?_)
  refine lv_aload_n hx hb dX2_untell_35 rfl (lv_at hl 1 rfl) ?_
  refine r_get F hK hP 0 7 rfl rfl in_X2 (by decide) k_165 rfl dX2_untell_36 ?_
  refine lv_iload_n hx hb dX2_untell_39 rfl (lv_at hl 0 rfl) ?_
  refine lv_bipush (v := (-2)) hx hb dX2_untell_40 (by decide) ?_
  refine r_iastX F hK hP hD hS 4 0 rfl rfl (bw_vin (by decide)) dX2_untell_42 (w1 := fun f5 => [(b, .inr (2, [.int Lx, .ref (q 0), .ref (q 1), .ref (q 2), .ref (q 3), .ref (q 4), .ref (q 5), .ref (q 6), .ref (q 7)])), ((q 0), .inl (cI, 10, .inl f1)), ((q 1), .inl (cI, 10, .inl f2)), ((q 2), .inl (cI, 10, .inl f3)), ((q 6), .inl (cI, 20, .inl f5)), ((q 7), .inl (cI, 20, .inl (fun _ => 0)))]) (fun _ => rfl) (fun f5 H locs hP hD hS => ?_)
  refine lv_aload_n hx hb dX2_untell_43 rfl (lv_at hl 1 rfl) ?_
  refine r_get F hK hP 0 8 rfl rfl in_X2 (by decide) k_169 rfl dX2_untell_44 ?_
  refine lv_iload_n hx hb dX2_untell_47 rfl (lv_at hl 0 rfl) ?_
  refine lv_iconst (v := 0) hx hb dX2_untell_48 (by decide) ?_
  refine r_iast F hK hP hD hS 5 0 rfl rfl (bw_vin (by decide)) dX2_untell_49 bw_upd0 (w1 := [(b, .inr (2, [.int Lx, .ref (q 0), .ref (q 1), .ref (q 2), .ref (q 3), .ref (q 4), .ref (q 5), .ref (q 6), .ref (q 7)])), ((q 0), .inl (cI, 10, .inl f1)), ((q 1), .inl (cI, 10, .inl f2)), ((q 2), .inl (cI, 10, .inl f3)), ((q 6), .inl (cI, 20, .inl f5)), ((q 7), .inl (cI, 20, .inl (fun _ => 0)))]) rfl (fun H locs hP hD hS => ?_)
  refine lv_iinc (v := 6) (lv' := [(2, .int 6), (0, .ref b), (1, .int 2)]) hx hb dX2_untell_50 hl (k := 0) rfl (by decide) (by decide) rfl (fun ls hl => ?_)
  refine lv_goto (tgt := 26) hx hb dX2_untell_53 (by decide) ?_
  refine lv_iload_n hx hb dX2_untell_26 rfl (lv_at hl 0 rfl) ?_
  refine lv_iconst (v := 2) hx hb dX2_untell_27 (by decide) ?_
  refine lv_iload_n hx hb dX2_untell_28 rfl (lv_at hl 2 rfl) ?_
  refine r_imul (v := 4) F dX2_untell_29 (by decide) ?_
  refine lv_iconst (v := 1) hx hb dX2_untell_30 (by decide) ?_
  refine r_iadd (v := 5) F dX2_untell_31 (by decide) ?_
  refine lv_icmp_gt (tgt := 56) hx hb dX2_untell_32 (by decide) (fun _ => ?_) (fun h9 => absurd (by decide) h9)
  exact ret (fun _ => 0, (fun k => [f1, f2, f3, f5].getD k (fun _ => 0))) _ _ _ _ _ _ trivial (bw_subP (isC := [0, 1, 2, 3, 4, 5]) hP rfl) (hD.sub [0, 1, 2, 3, 4, 5] (by decide) rfl) hS (Nat.le_of_ble_eq_true rfl) (Nat.le_of_ble_eq_true rfl) dX2_untell_56
abbrev rm_X2_untell_3 : Room := { frames := 0, cells := 0, slots := 0, locals := 0 }
set_option maxRecDepth 100000 in
set_option maxHeartbeats 4000000 in
theorem c_X2_untell_3 {l : Launch} {E : (Nat → Prop) → State → Prop} (hO : bw_Ok E) {G : va_G} {cI cB cJ cN cW : ClassId} (b : Nat) (q : Nat → Nat) (Lx : Int32) (f : Nat → Nat → Int32) : bw_Cv (S := bw_U) l yX2_untell (bw_ws (Cond.code yX2_untell cX2_untell 3 none)) rm_X2_untell_3 E G (bw_kt cI cB cJ cN cW) [.ref b, .int 3] [(b, .inr (2, [.int Lx, .ref (q 0), .ref (q 1), .ref (q 2), .ref (q 3), .ref (q 4), .ref (q 5), .ref (q 6), .ref (q 7)])), ((q 0), .inl (cI, 10, .inl (f 0))), ((q 1), .inl (cI, 10, .inl (f 1))), ((q 2), .inl (cI, 10, .inl (f 2))), ((q 6), .inl (cI, 20, .inl (f 3))), ((q 7), .inl (cI, 20, .inl (fun _ => 0)))] (fun _ => True) (fun u => [(b, .inr (2, [.int Lx, .ref (q 0), .ref (q 1), .ref (q 2), .ref (q 3), .ref (q 4), .ref (q 5), .ref (q 6), .ref (q 7)])), ((q 0), .inl (cI, 10, .inl (u.2 0))), ((q 1), .inl (cI, 10, .inl (u.2 1))), ((q 2), .inl (cI, 10, .inl (u.2 2))), ((q 6), .inl (cI, 20, .inl (u.2 3))), ((q 7), .inl (cI, 20, .inl (fun _ => 0)))]) := by
  refine bw_Cv.of (cc := cX2_untell) (maxL := 3) (by decide) rfl (Nat.le_of_ble_eq_true rfl) ?_
  intro p e s m below meth c A Q hx hb hml hts hown hin hK hA hS hP hD hE ret ls hl
  have F : CallFix p m c cX2_untell 3 s ([.ref b, .int 3] : List Value).toArray bw_T RX2 := ⟨hx, hb, hml, hown, fun w h => hts w (List.mem_cons_of_mem _ h)⟩
  have hl : lv_has ls 3 [(0, .ref b), (1, .int 3)] := hl
  refine lv_aload_n hx hb dX2_untell_0 rfl (lv_at hl 0 rfl) ?_
  refine r_get F hK hP 0 1 rfl rfl in_X2 (by decide) k_147 rfl dX2_untell_1 ?_
  refine lv_iload_n hx hb dX2_untell_4 rfl (lv_at hl 1 rfl) ?_
  refine lv_iconst (v := (-1)) hx hb dX2_untell_5 (by decide) ?_
  refine r_iastX F hK hP hD hS 1 0 rfl rfl (bw_vin (by decide)) dX2_untell_6 (w1 := fun f1 => [(b, .inr (2, [.int Lx, .ref (q 0), .ref (q 1), .ref (q 2), .ref (q 3), .ref (q 4), .ref (q 5), .ref (q 6), .ref (q 7)])), ((q 0), .inl (cI, 10, .inl f1)), ((q 1), .inl (cI, 10, .inl (f 1))), ((q 2), .inl (cI, 10, .inl (f 2))), ((q 6), .inl (cI, 20, .inl (f 3))), ((q 7), .inl (cI, 20, .inl (fun _ => 0)))]) (fun _ => rfl) (fun f1 H locs hP hD hS => ?_)
  refine lv_aload_n hx hb dX2_untell_7 rfl (lv_at hl 0 rfl) ?_
  refine r_get F hK hP 0 2 rfl rfl in_X2 (by decide) k_150 rfl dX2_untell_8 ?_
  refine lv_iload_n hx hb dX2_untell_11 rfl (lv_at hl 1 rfl) ?_
  refine lv_bipush (v := (-2)) hx hb dX2_untell_12 (by decide) ?_
  refine r_iastX F hK hP hD hS 2 0 rfl rfl (bw_vin (by decide)) dX2_untell_14 (w1 := fun f2 => [(b, .inr (2, [.int Lx, .ref (q 0), .ref (q 1), .ref (q 2), .ref (q 3), .ref (q 4), .ref (q 5), .ref (q 6), .ref (q 7)])), ((q 0), .inl (cI, 10, .inl f1)), ((q 1), .inl (cI, 10, .inl f2)), ((q 2), .inl (cI, 10, .inl (f 2))), ((q 6), .inl (cI, 20, .inl (f 3))), ((q 7), .inl (cI, 20, .inl (fun _ => 0)))]) (fun _ => rfl) (fun f2 H locs hP hD hS => ?_)
  refine lv_aload_n hx hb dX2_untell_15 rfl (lv_at hl 0 rfl) ?_
  refine r_get F hK hP 0 3 rfl rfl in_X2 (by decide) k_153 rfl dX2_untell_16 ?_
  refine lv_iload_n hx hb dX2_untell_19 rfl (lv_at hl 1 rfl) ?_
  refine lv_iconst (v := 0) hx hb dX2_untell_20 (by decide) ?_
  refine r_iastX F hK hP hD hS 3 0 rfl rfl (bw_vin (by decide)) dX2_untell_21 (w1 := fun f3 => [(b, .inr (2, [.int Lx, .ref (q 0), .ref (q 1), .ref (q 2), .ref (q 3), .ref (q 4), .ref (q 5), .ref (q 6), .ref (q 7)])), ((q 0), .inl (cI, 10, .inl f1)), ((q 1), .inl (cI, 10, .inl f2)), ((q 2), .inl (cI, 10, .inl f3)), ((q 6), .inl (cI, 20, .inl (f 3))), ((q 7), .inl (cI, 20, .inl (fun _ => 0)))]) (fun _ => rfl) (fun f3 H locs hP hD hS => ?_)
  refine lv_iconst (v := 2) hx hb dX2_untell_22 (by decide) ?_
  refine lv_iload_n hx hb dX2_untell_23 rfl (lv_at hl 1 rfl) ?_
  refine r_imul (v := 6) F dX2_untell_24 (by decide) ?_
  refine lv_istore_n (lv' := [(2, .int 6), (0, .ref b), (1, .int 3)]) hx hb dX2_untell_25 rfl hl (by decide) rfl (fun ls hl => ?_)
  refine lv_iload_n hx hb dX2_untell_26 rfl (lv_at hl 0 rfl) ?_
  refine lv_iconst (v := 2) hx hb dX2_untell_27 (by decide) ?_
  refine lv_iload_n hx hb dX2_untell_28 rfl (lv_at hl 2 rfl) ?_
  refine r_imul (v := 6) F dX2_untell_29 (by decide) ?_
  refine lv_iconst (v := 1) hx hb dX2_untell_30 (by decide) ?_
  refine r_iadd (v := 7) F dX2_untell_31 (by decide) ?_
  refine lv_icmp_gt (tgt := 56) hx hb dX2_untell_32 (by decide) (fun h9 => absurd h9 (by decide)) (fun _ => ?_)
  refine lv_aload_n hx hb dX2_untell_35 rfl (lv_at hl 1 rfl) ?_
  refine r_get F hK hP 0 7 rfl rfl in_X2 (by decide) k_165 rfl dX2_untell_36 ?_
  refine lv_iload_n hx hb dX2_untell_39 rfl (lv_at hl 0 rfl) ?_
  refine lv_bipush (v := (-2)) hx hb dX2_untell_40 (by decide) ?_
  refine r_iastX F hK hP hD hS 4 0 rfl rfl (bw_vin (by decide)) dX2_untell_42 (w1 := fun f4 => [(b, .inr (2, [.int Lx, .ref (q 0), .ref (q 1), .ref (q 2), .ref (q 3), .ref (q 4), .ref (q 5), .ref (q 6), .ref (q 7)])), ((q 0), .inl (cI, 10, .inl f1)), ((q 1), .inl (cI, 10, .inl f2)), ((q 2), .inl (cI, 10, .inl f3)), ((q 6), .inl (cI, 20, .inl f4)), ((q 7), .inl (cI, 20, .inl (fun _ => 0)))]) (fun _ => rfl) (fun f4 H locs hP hD hS => ?_)
  refine lv_aload_n hx hb dX2_untell_43 rfl (lv_at hl 1 rfl) ?_
  refine r_get F hK hP 0 8 rfl rfl in_X2 (by decide) k_169 rfl dX2_untell_44 ?_
  refine lv_iload_n hx hb dX2_untell_47 rfl (lv_at hl 0 rfl) ?_
  refine lv_iconst (v := 0) hx hb dX2_untell_48 (by decide) ?_
  refine r_iast F hK hP hD hS 5 0 rfl rfl (bw_vin (by decide)) dX2_untell_49 bw_upd0 (w1 := [(b, .inr (2, [.int Lx, .ref (q 0), .ref (q 1), .ref (q 2), .ref (q 3), .ref (q 4), .ref (q 5), .ref (q 6), .ref (q 7)])), ((q 0), .inl (cI, 10, .inl f1)), ((q 1), .inl (cI, 10, .inl f2)), ((q 2), .inl (cI, 10, .inl f3)), ((q 6), .inl (cI, 20, .inl f4)), ((q 7), .inl (cI, 20, .inl (fun _ => 0)))]) rfl (fun H locs hP hD hS => ?_)
  refine lv_iinc (v := 7) (lv' := [(2, .int 7), (0, .ref b), (1, .int 3)]) hx hb dX2_untell_50 hl (k := 0) rfl (by decide) (by decide) rfl (fun ls hl => ?_)
  refine lv_goto (tgt := 26) hx hb dX2_untell_53 (by decide) ?_
  refine lv_iload_n hx hb dX2_untell_26 rfl (lv_at hl 0 rfl) ?_
  refine lv_iconst (v := 2) hx hb dX2_untell_27 (by decide) ?_
  refine lv_iload_n hx hb dX2_untell_28 rfl (lv_at hl 2 rfl) ?_
  refine r_imul (v := 6) F dX2_untell_29 (by decide) ?_
  refine lv_iconst (v := 1) hx hb dX2_untell_30 (by decide) ?_
  refine r_iadd (v := 7) F dX2_untell_31 (by decide) ?_
  refine lv_icmp_gt (tgt := 56) hx hb dX2_untell_32 (by decide) (fun h9 => absurd h9 (by decide)) (fun _ => ?_)
  refine lv_aload_n hx hb dX2_untell_35 rfl (lv_at hl 1 rfl) ?_
  refine r_get F hK hP 0 7 rfl rfl in_X2 (by decide) k_165 rfl dX2_untell_36 ?_
  refine lv_iload_n hx hb dX2_untell_39 rfl (lv_at hl 0 rfl) ?_
  refine lv_bipush (v := (-2)) hx hb dX2_untell_40 (by decide) ?_
  refine r_iastX F hK hP hD hS 4 0 rfl rfl (bw_vin (by decide)) dX2_untell_42 (w1 := fun f5 => [(b, .inr (2, [.int Lx, .ref (q 0), .ref (q 1), .ref (q 2), .ref (q 3), .ref (q 4), .ref (q 5), .ref (q 6), .ref (q 7)])), ((q 0), .inl (cI, 10, .inl f1)), ((q 1), .inl (cI, 10, .inl f2)), ((q 2), .inl (cI, 10, .inl f3)), ((q 6), .inl (cI, 20, .inl f5)), ((q 7), .inl (cI, 20, .inl (fun _ => 0)))]) (fun _ => rfl) (fun f5 H locs hP hD hS => ?_)
  refine lv_aload_n hx hb dX2_untell_43 rfl (lv_at hl 1 rfl) ?_
  refine r_get F hK hP 0 8 rfl rfl in_X2 (by decide) k_169 rfl dX2_untell_44 ?_
  refine lv_iload_n hx hb dX2_untell_47 rfl (lv_at hl 0 rfl) ?_
  refine lv_iconst (v := 0) hx hb dX2_untell_48 (by decide) ?_
  refine r_iast F hK hP hD hS 5 0 rfl rfl (bw_vin (by decide)) dX2_untell_49 bw_upd0 (w1 := [(b, .inr (2, [.int Lx, .ref (q 0), .ref (q 1), .ref (q 2), .ref (q 3), .ref (q 4), .ref (q 5), .ref (q 6), .ref (q 7)])), ((q 0), .inl (cI, 10, .inl f1)), ((q 1), .inl (cI, 10, .inl f2)), ((q 2), .inl (cI, 10, .inl f3)), ((q 6), .inl (cI, 20, .inl f5)), ((q 7), .inl (cI, 20, .inl (fun _ => 0)))]) rfl (fun H locs hP hD hS => ?_)
  refine lv_iinc (v := 8) (lv' := [(2, .int 8), (0, .ref b), (1, .int 3)]) hx hb dX2_untell_50 hl (k := 0) rfl (by decide) (by decide) rfl (fun ls hl => ?_)
  refine lv_goto (tgt := 26) hx hb dX2_untell_53 (by decide) ?_
  refine lv_iload_n hx hb dX2_untell_26 rfl (lv_at hl 0 rfl) ?_
  refine lv_iconst (v := 2) hx hb dX2_untell_27 (by decide) ?_
  refine lv_iload_n hx hb dX2_untell_28 rfl (lv_at hl 2 rfl) ?_
  refine r_imul (v := 6) F dX2_untell_29 (by decide) ?_
  refine lv_iconst (v := 1) hx hb dX2_untell_30 (by decide) ?_
  refine r_iadd (v := 7) F dX2_untell_31 (by decide) ?_
  refine lv_icmp_gt (tgt := 56) hx hb dX2_untell_32 (by decide) (fun _ => ?_) (fun h9 => absurd (by decide) h9)
  exact ret (fun _ => 0, (fun k => [f1, f2, f3, f5].getD k (fun _ => 0))) _ _ _ _ _ _ trivial (bw_subP (isC := [0, 1, 2, 3, 4, 5]) hP rfl) (hD.sub [0, 1, 2, 3, 4, 5] (by decide) rfl) hS (Nat.le_of_ble_eq_true rfl) (Nat.le_of_ble_eq_true rfl) dX2_untell_56
abbrev rm_X2_untell_4 : Room := { frames := 0, cells := 0, slots := 0, locals := 0 }
set_option maxRecDepth 100000 in
set_option maxHeartbeats 4000000 in
theorem c_X2_untell_4 {l : Launch} {E : (Nat → Prop) → State → Prop} (hO : bw_Ok E) {G : va_G} {cI cB cJ cN cW : ClassId} (b : Nat) (q : Nat → Nat) (Lx : Int32) (f : Nat → Nat → Int32) : bw_Cv (S := bw_U) l yX2_untell (bw_ws (Cond.code yX2_untell cX2_untell 3 none)) rm_X2_untell_4 E G (bw_kt cI cB cJ cN cW) [.ref b, .int 4] [(b, .inr (2, [.int Lx, .ref (q 0), .ref (q 1), .ref (q 2), .ref (q 3), .ref (q 4), .ref (q 5), .ref (q 6), .ref (q 7)])), ((q 0), .inl (cI, 10, .inl (f 0))), ((q 1), .inl (cI, 10, .inl (f 1))), ((q 2), .inl (cI, 10, .inl (f 2))), ((q 6), .inl (cI, 20, .inl (f 3))), ((q 7), .inl (cI, 20, .inl (fun _ => 0)))] (fun _ => True) (fun u => [(b, .inr (2, [.int Lx, .ref (q 0), .ref (q 1), .ref (q 2), .ref (q 3), .ref (q 4), .ref (q 5), .ref (q 6), .ref (q 7)])), ((q 0), .inl (cI, 10, .inl (u.2 0))), ((q 1), .inl (cI, 10, .inl (u.2 1))), ((q 2), .inl (cI, 10, .inl (u.2 2))), ((q 6), .inl (cI, 20, .inl (u.2 3))), ((q 7), .inl (cI, 20, .inl (fun _ => 0)))]) := by
  refine bw_Cv.of (cc := cX2_untell) (maxL := 3) (by decide) rfl (Nat.le_of_ble_eq_true rfl) ?_
  intro p e s m below meth c A Q hx hb hml hts hown hin hK hA hS hP hD hE ret ls hl
  have F : CallFix p m c cX2_untell 3 s ([.ref b, .int 4] : List Value).toArray bw_T RX2 := ⟨hx, hb, hml, hown, fun w h => hts w (List.mem_cons_of_mem _ h)⟩
  have hl : lv_has ls 3 [(0, .ref b), (1, .int 4)] := hl
  refine lv_aload_n hx hb dX2_untell_0 rfl (lv_at hl 0 rfl) ?_
  refine r_get F hK hP 0 1 rfl rfl in_X2 (by decide) k_147 rfl dX2_untell_1 ?_
  refine lv_iload_n hx hb dX2_untell_4 rfl (lv_at hl 1 rfl) ?_
  refine lv_iconst (v := (-1)) hx hb dX2_untell_5 (by decide) ?_
  refine r_iastX F hK hP hD hS 1 0 rfl rfl (bw_vin (by decide)) dX2_untell_6 (w1 := fun f1 => [(b, .inr (2, [.int Lx, .ref (q 0), .ref (q 1), .ref (q 2), .ref (q 3), .ref (q 4), .ref (q 5), .ref (q 6), .ref (q 7)])), ((q 0), .inl (cI, 10, .inl f1)), ((q 1), .inl (cI, 10, .inl (f 1))), ((q 2), .inl (cI, 10, .inl (f 2))), ((q 6), .inl (cI, 20, .inl (f 3))), ((q 7), .inl (cI, 20, .inl (fun _ => 0)))]) (fun _ => rfl) (fun f1 H locs hP hD hS => ?_)
  refine lv_aload_n hx hb dX2_untell_7 rfl (lv_at hl 0 rfl) ?_
  refine r_get F hK hP 0 2 rfl rfl in_X2 (by decide) k_150 rfl dX2_untell_8 ?_
  refine lv_iload_n hx hb dX2_untell_11 rfl (lv_at hl 1 rfl) ?_
  refine lv_bipush (v := (-2)) hx hb dX2_untell_12 (by decide) ?_
  refine r_iastX F hK hP hD hS 2 0 rfl rfl (bw_vin (by decide)) dX2_untell_14 (w1 := fun f2 => [(b, .inr (2, [.int Lx, .ref (q 0), .ref (q 1), .ref (q 2), .ref (q 3), .ref (q 4), .ref (q 5), .ref (q 6), .ref (q 7)])), ((q 0), .inl (cI, 10, .inl f1)), ((q 1), .inl (cI, 10, .inl f2)), ((q 2), .inl (cI, 10, .inl (f 2))), ((q 6), .inl (cI, 20, .inl (f 3))), ((q 7), .inl (cI, 20, .inl (fun _ => 0)))]) (fun _ => rfl) (fun f2 H locs hP hD hS => ?_)
  refine lv_aload_n hx hb dX2_untell_15 rfl (lv_at hl 0 rfl) ?_
  refine r_get F hK hP 0 3 rfl rfl in_X2 (by decide) k_153 rfl dX2_untell_16 ?_
  refine lv_iload_n hx hb dX2_untell_19 rfl (lv_at hl 1 rfl) ?_
  refine lv_iconst (v := 0) hx hb dX2_untell_20 (by decide) ?_
  refine r_iastX F hK hP hD hS 3 0 rfl rfl (bw_vin (by decide)) dX2_untell_21 (w1 := fun f3 => [(b, .inr (2, [.int Lx, .ref (q 0), .ref (q 1), .ref (q 2), .ref (q 3), .ref (q 4), .ref (q 5), .ref (q 6), .ref (q 7)])), ((q 0), .inl (cI, 10, .inl f1)), ((q 1), .inl (cI, 10, .inl f2)), ((q 2), .inl (cI, 10, .inl f3)), ((q 6), .inl (cI, 20, .inl (f 3))), ((q 7), .inl (cI, 20, .inl (fun _ => 0)))]) (fun _ => rfl) (fun f3 H locs hP hD hS => ?_)
  refine lv_iconst (v := 2) hx hb dX2_untell_22 (by decide) ?_
  refine lv_iload_n hx hb dX2_untell_23 rfl (lv_at hl 1 rfl) ?_
  refine r_imul (v := 8) F dX2_untell_24 (by decide) ?_
  refine lv_istore_n (lv' := [(2, .int 8), (0, .ref b), (1, .int 4)]) hx hb dX2_untell_25 rfl hl (by decide) rfl (fun ls hl => ?_)
  refine lv_iload_n hx hb dX2_untell_26 rfl (lv_at hl 0 rfl) ?_
  refine lv_iconst (v := 2) hx hb dX2_untell_27 (by decide) ?_
  refine lv_iload_n hx hb dX2_untell_28 rfl (lv_at hl 2 rfl) ?_
  refine r_imul (v := 8) F dX2_untell_29 (by decide) ?_
  refine lv_iconst (v := 1) hx hb dX2_untell_30 (by decide) ?_
  refine r_iadd (v := 9) F dX2_untell_31 (by decide) ?_
  refine lv_icmp_gt (tgt := 56) hx hb dX2_untell_32 (by decide) (fun h9 => absurd h9 (by decide)) (fun _ => ?_)
  refine lv_aload_n hx hb dX2_untell_35 rfl (lv_at hl 1 rfl) ?_
  refine r_get F hK hP 0 7 rfl rfl in_X2 (by decide) k_165 rfl dX2_untell_36 ?_
  refine lv_iload_n hx hb dX2_untell_39 rfl (lv_at hl 0 rfl) ?_
  refine lv_bipush (v := (-2)) hx hb dX2_untell_40 (by decide) ?_
  refine r_iastX F hK hP hD hS 4 0 rfl rfl (bw_vin (by decide)) dX2_untell_42 (w1 := fun f4 => [(b, .inr (2, [.int Lx, .ref (q 0), .ref (q 1), .ref (q 2), .ref (q 3), .ref (q 4), .ref (q 5), .ref (q 6), .ref (q 7)])), ((q 0), .inl (cI, 10, .inl f1)), ((q 1), .inl (cI, 10, .inl f2)), ((q 2), .inl (cI, 10, .inl f3)), ((q 6), .inl (cI, 20, .inl f4)), ((q 7), .inl (cI, 20, .inl (fun _ => 0)))]) (fun _ => rfl) (fun f4 H locs hP hD hS => ?_)
  refine lv_aload_n hx hb dX2_untell_43 rfl (lv_at hl 1 rfl) ?_
  refine r_get F hK hP 0 8 rfl rfl in_X2 (by decide) k_169 rfl dX2_untell_44 ?_
  refine lv_iload_n hx hb dX2_untell_47 rfl (lv_at hl 0 rfl) ?_
  refine lv_iconst (v := 0) hx hb dX2_untell_48 (by decide) ?_
  refine r_iast F hK hP hD hS 5 0 rfl rfl (bw_vin (by decide)) dX2_untell_49 bw_upd0 (w1 := [(b, .inr (2, [.int Lx, .ref (q 0), .ref (q 1), .ref (q 2), .ref (q 3), .ref (q 4), .ref (q 5), .ref (q 6), .ref (q 7)])), ((q 0), .inl (cI, 10, .inl f1)), ((q 1), .inl (cI, 10, .inl f2)), ((q 2), .inl (cI, 10, .inl f3)), ((q 6), .inl (cI, 20, .inl f4)), ((q 7), .inl (cI, 20, .inl (fun _ => 0)))]) rfl (fun H locs hP hD hS => ?_)
  refine lv_iinc (v := 9) (lv' := [(2, .int 9), (0, .ref b), (1, .int 4)]) hx hb dX2_untell_50 hl (k := 0) rfl (by decide) (by decide) rfl (fun ls hl => ?_)
  refine lv_goto (tgt := 26) hx hb dX2_untell_53 (by decide) ?_
  refine lv_iload_n hx hb dX2_untell_26 rfl (lv_at hl 0 rfl) ?_
  refine lv_iconst (v := 2) hx hb dX2_untell_27 (by decide) ?_
  refine lv_iload_n hx hb dX2_untell_28 rfl (lv_at hl 2 rfl) ?_
  refine r_imul (v := 8) F dX2_untell_29 (by decide) ?_
  refine lv_iconst (v := 1) hx hb dX2_untell_30 (by decide) ?_
  refine r_iadd (v := 9) F dX2_untell_31 (by decide) ?_
  refine lv_icmp_gt (tgt := 56) hx hb dX2_untell_32 (by decide) (fun h9 => absurd h9 (by decide)) (fun _ => ?_)
  refine lv_aload_n hx hb dX2_untell_35 rfl (lv_at hl 1 rfl) ?_
  refine r_get F hK hP 0 7 rfl rfl in_X2 (by decide) k_165 rfl dX2_untell_36 ?_
  refine lv_iload_n hx hb dX2_untell_39 rfl (lv_at hl 0 rfl) ?_
  refine lv_bipush (v := (-2)) hx hb dX2_untell_40 (by decide) ?_
  refine r_iastX F hK hP hD hS 4 0 rfl rfl (bw_vin (by decide)) dX2_untell_42 (w1 := fun f5 => [(b, .inr (2, [.int Lx, .ref (q 0), .ref (q 1), .ref (q 2), .ref (q 3), .ref (q 4), .ref (q 5), .ref (q 6), .ref (q 7)])), ((q 0), .inl (cI, 10, .inl f1)), ((q 1), .inl (cI, 10, .inl f2)), ((q 2), .inl (cI, 10, .inl f3)), ((q 6), .inl (cI, 20, .inl f5)), ((q 7), .inl (cI, 20, .inl (fun _ => 0)))]) (fun _ => rfl) (fun f5 H locs hP hD hS => ?_)
  refine lv_aload_n hx hb dX2_untell_43 rfl (lv_at hl 1 rfl) ?_
  refine r_get F hK hP 0 8 rfl rfl in_X2 (by decide) k_169 rfl dX2_untell_44 ?_
  refine lv_iload_n hx hb dX2_untell_47 rfl (lv_at hl 0 rfl) ?_
  refine lv_iconst (v := 0) hx hb dX2_untell_48 (by decide) ?_
  refine r_iast F hK hP hD hS 5 0 rfl rfl (bw_vin (by decide)) dX2_untell_49 bw_upd0 (w1 := [(b, .inr (2, [.int Lx, .ref (q 0), .ref (q 1), .ref (q 2), .ref (q 3), .ref (q 4), .ref (q 5), .ref (q 6), .ref (q 7)])), ((q 0), .inl (cI, 10, .inl f1)), ((q 1), .inl (cI, 10, .inl f2)), ((q 2), .inl (cI, 10, .inl f3)), ((q 6), .inl (cI, 20, .inl f5)), ((q 7), .inl (cI, 20, .inl (fun _ => 0)))]) rfl (fun H locs hP hD hS => ?_)
  refine lv_iinc (v := 10) (lv' := [(2, .int 10), (0, .ref b), (1, .int 4)]) hx hb dX2_untell_50 hl (k := 0) rfl (by decide) (by decide) rfl (fun ls hl => ?_)
  refine lv_goto (tgt := 26) hx hb dX2_untell_53 (by decide) ?_
  refine lv_iload_n hx hb dX2_untell_26 rfl (lv_at hl 0 rfl) ?_
  refine lv_iconst (v := 2) hx hb dX2_untell_27 (by decide) ?_
  refine lv_iload_n hx hb dX2_untell_28 rfl (lv_at hl 2 rfl) ?_
  refine r_imul (v := 8) F dX2_untell_29 (by decide) ?_
  refine lv_iconst (v := 1) hx hb dX2_untell_30 (by decide) ?_
  refine r_iadd (v := 9) F dX2_untell_31 (by decide) ?_
  refine lv_icmp_gt (tgt := 56) hx hb dX2_untell_32 (by decide) (fun _ => ?_) (fun h9 => absurd (by decide) h9)
  exact ret (fun _ => 0, (fun k => [f1, f2, f3, f5].getD k (fun _ => 0))) _ _ _ _ _ _ trivial (bw_subP (isC := [0, 1, 2, 3, 4, 5]) hP rfl) (hD.sub [0, 1, 2, 3, 4, 5] (by decide) rfl) hS (Nat.le_of_ble_eq_true rfl) (Nat.le_of_ble_eq_true rfl) dX2_untell_56
abbrev rm_X2_untell_5 : Room := { frames := 0, cells := 0, slots := 0, locals := 0 }
set_option maxRecDepth 100000 in
set_option maxHeartbeats 4000000 in
theorem c_X2_untell_5 {l : Launch} {E : (Nat → Prop) → State → Prop} (hO : bw_Ok E) {G : va_G} {cI cB cJ cN cW : ClassId} (b : Nat) (q : Nat → Nat) (Lx : Int32) (f : Nat → Nat → Int32) : bw_Cv (S := bw_U) l yX2_untell (bw_ws (Cond.code yX2_untell cX2_untell 3 none)) rm_X2_untell_5 E G (bw_kt cI cB cJ cN cW) [.ref b, .int 5] [(b, .inr (2, [.int Lx, .ref (q 0), .ref (q 1), .ref (q 2), .ref (q 3), .ref (q 4), .ref (q 5), .ref (q 6), .ref (q 7)])), ((q 0), .inl (cI, 10, .inl (f 0))), ((q 1), .inl (cI, 10, .inl (f 1))), ((q 2), .inl (cI, 10, .inl (f 2))), ((q 6), .inl (cI, 20, .inl (f 3))), ((q 7), .inl (cI, 20, .inl (fun _ => 0)))] (fun _ => True) (fun u => [(b, .inr (2, [.int Lx, .ref (q 0), .ref (q 1), .ref (q 2), .ref (q 3), .ref (q 4), .ref (q 5), .ref (q 6), .ref (q 7)])), ((q 0), .inl (cI, 10, .inl (u.2 0))), ((q 1), .inl (cI, 10, .inl (u.2 1))), ((q 2), .inl (cI, 10, .inl (u.2 2))), ((q 6), .inl (cI, 20, .inl (u.2 3))), ((q 7), .inl (cI, 20, .inl (fun _ => 0)))]) := by
  refine bw_Cv.of (cc := cX2_untell) (maxL := 3) (by decide) rfl (Nat.le_of_ble_eq_true rfl) ?_
  intro p e s m below meth c A Q hx hb hml hts hown hin hK hA hS hP hD hE ret ls hl
  have F : CallFix p m c cX2_untell 3 s ([.ref b, .int 5] : List Value).toArray bw_T RX2 := ⟨hx, hb, hml, hown, fun w h => hts w (List.mem_cons_of_mem _ h)⟩
  have hl : lv_has ls 3 [(0, .ref b), (1, .int 5)] := hl
  refine lv_aload_n hx hb dX2_untell_0 rfl (lv_at hl 0 rfl) ?_
  refine r_get F hK hP 0 1 rfl rfl in_X2 (by decide) k_147 rfl dX2_untell_1 ?_
  refine lv_iload_n hx hb dX2_untell_4 rfl (lv_at hl 1 rfl) ?_
  refine lv_iconst (v := (-1)) hx hb dX2_untell_5 (by decide) ?_
  refine r_iastX F hK hP hD hS 1 0 rfl rfl (bw_vin (by decide)) dX2_untell_6 (w1 := fun f1 => [(b, .inr (2, [.int Lx, .ref (q 0), .ref (q 1), .ref (q 2), .ref (q 3), .ref (q 4), .ref (q 5), .ref (q 6), .ref (q 7)])), ((q 0), .inl (cI, 10, .inl f1)), ((q 1), .inl (cI, 10, .inl (f 1))), ((q 2), .inl (cI, 10, .inl (f 2))), ((q 6), .inl (cI, 20, .inl (f 3))), ((q 7), .inl (cI, 20, .inl (fun _ => 0)))]) (fun _ => rfl) (fun f1 H locs hP hD hS => ?_)
  refine lv_aload_n hx hb dX2_untell_7 rfl (lv_at hl 0 rfl) ?_
  refine r_get F hK hP 0 2 rfl rfl in_X2 (by decide) k_150 rfl dX2_untell_8 ?_
  refine lv_iload_n hx hb dX2_untell_11 rfl (lv_at hl 1 rfl) ?_
  refine lv_bipush (v := (-2)) hx hb dX2_untell_12 (by decide) ?_
  refine r_iastX F hK hP hD hS 2 0 rfl rfl (bw_vin (by decide)) dX2_untell_14 (w1 := fun f2 => [(b, .inr (2, [.int Lx, .ref (q 0), .ref (q 1), .ref (q 2), .ref (q 3), .ref (q 4), .ref (q 5), .ref (q 6), .ref (q 7)])), ((q 0), .inl (cI, 10, .inl f1)), ((q 1), .inl (cI, 10, .inl f2)), ((q 2), .inl (cI, 10, .inl (f 2))), ((q 6), .inl (cI, 20, .inl (f 3))), ((q 7), .inl (cI, 20, .inl (fun _ => 0)))]) (fun _ => rfl) (fun f2 H locs hP hD hS => ?_)
  refine lv_aload_n hx hb dX2_untell_15 rfl (lv_at hl 0 rfl) ?_
  refine r_get F hK hP 0 3 rfl rfl in_X2 (by decide) k_153 rfl dX2_untell_16 ?_
  refine lv_iload_n hx hb dX2_untell_19 rfl (lv_at hl 1 rfl) ?_
  refine lv_iconst (v := 0) hx hb dX2_untell_20 (by decide) ?_
  refine r_iastX F hK hP hD hS 3 0 rfl rfl (bw_vin (by decide)) dX2_untell_21 (w1 := fun f3 => [(b, .inr (2, [.int Lx, .ref (q 0), .ref (q 1), .ref (q 2), .ref (q 3), .ref (q 4), .ref (q 5), .ref (q 6), .ref (q 7)])), ((q 0), .inl (cI, 10, .inl f1)), ((q 1), .inl (cI, 10, .inl f2)), ((q 2), .inl (cI, 10, .inl f3)), ((q 6), .inl (cI, 20, .inl (f 3))), ((q 7), .inl (cI, 20, .inl (fun _ => 0)))]) (fun _ => rfl) (fun f3 H locs hP hD hS => ?_)
  refine lv_iconst (v := 2) hx hb dX2_untell_22 (by decide) ?_
  refine lv_iload_n hx hb dX2_untell_23 rfl (lv_at hl 1 rfl) ?_
  refine r_imul (v := 10) F dX2_untell_24 (by decide) ?_
  refine lv_istore_n (lv' := [(2, .int 10), (0, .ref b), (1, .int 5)]) hx hb dX2_untell_25 rfl hl (by decide) rfl (fun ls hl => ?_)
  refine lv_iload_n hx hb dX2_untell_26 rfl (lv_at hl 0 rfl) ?_
  refine lv_iconst (v := 2) hx hb dX2_untell_27 (by decide) ?_
  refine lv_iload_n hx hb dX2_untell_28 rfl (lv_at hl 2 rfl) ?_
  refine r_imul (v := 10) F dX2_untell_29 (by decide) ?_
  refine lv_iconst (v := 1) hx hb dX2_untell_30 (by decide) ?_
  refine r_iadd (v := 11) F dX2_untell_31 (by decide) ?_
  refine lv_icmp_gt (tgt := 56) hx hb dX2_untell_32 (by decide) (fun h9 => absurd h9 (by decide)) (fun _ => ?_)
  refine lv_aload_n hx hb dX2_untell_35 rfl (lv_at hl 1 rfl) ?_
  refine r_get F hK hP 0 7 rfl rfl in_X2 (by decide) k_165 rfl dX2_untell_36 ?_
  refine lv_iload_n hx hb dX2_untell_39 rfl (lv_at hl 0 rfl) ?_
  refine lv_bipush (v := (-2)) hx hb dX2_untell_40 (by decide) ?_
  refine r_iastX F hK hP hD hS 4 0 rfl rfl (bw_vin (by decide)) dX2_untell_42 (w1 := fun f4 => [(b, .inr (2, [.int Lx, .ref (q 0), .ref (q 1), .ref (q 2), .ref (q 3), .ref (q 4), .ref (q 5), .ref (q 6), .ref (q 7)])), ((q 0), .inl (cI, 10, .inl f1)), ((q 1), .inl (cI, 10, .inl f2)), ((q 2), .inl (cI, 10, .inl f3)), ((q 6), .inl (cI, 20, .inl f4)), ((q 7), .inl (cI, 20, .inl (fun _ => 0)))]) (fun _ => rfl) (fun f4 H locs hP hD hS => ?_)
  refine lv_aload_n hx hb dX2_untell_43 rfl (lv_at hl 1 rfl) ?_
  refine r_get F hK hP 0 8 rfl rfl in_X2 (by decide) k_169 rfl dX2_untell_44 ?_
  refine lv_iload_n hx hb dX2_untell_47 rfl (lv_at hl 0 rfl) ?_
  refine lv_iconst (v := 0) hx hb dX2_untell_48 (by decide) ?_
  refine r_iast F hK hP hD hS 5 0 rfl rfl (bw_vin (by decide)) dX2_untell_49 bw_upd0 (w1 := [(b, .inr (2, [.int Lx, .ref (q 0), .ref (q 1), .ref (q 2), .ref (q 3), .ref (q 4), .ref (q 5), .ref (q 6), .ref (q 7)])), ((q 0), .inl (cI, 10, .inl f1)), ((q 1), .inl (cI, 10, .inl f2)), ((q 2), .inl (cI, 10, .inl f3)), ((q 6), .inl (cI, 20, .inl f4)), ((q 7), .inl (cI, 20, .inl (fun _ => 0)))]) rfl (fun H locs hP hD hS => ?_)
  refine lv_iinc (v := 11) (lv' := [(2, .int 11), (0, .ref b), (1, .int 5)]) hx hb dX2_untell_50 hl (k := 0) rfl (by decide) (by decide) rfl (fun ls hl => ?_)
  refine lv_goto (tgt := 26) hx hb dX2_untell_53 (by decide) ?_
  refine lv_iload_n hx hb dX2_untell_26 rfl (lv_at hl 0 rfl) ?_
  refine lv_iconst (v := 2) hx hb dX2_untell_27 (by decide) ?_
  refine lv_iload_n hx hb dX2_untell_28 rfl (lv_at hl 2 rfl) ?_
  refine r_imul (v := 10) F dX2_untell_29 (by decide) ?_
  refine lv_iconst (v := 1) hx hb dX2_untell_30 (by decide) ?_
  refine r_iadd (v := 11) F dX2_untell_31 (by decide) ?_
  refine lv_icmp_gt (tgt := 56) hx hb dX2_untell_32 (by decide) (fun h9 => absurd h9 (by decide)) (fun _ => ?_)
  refine lv_aload_n hx hb dX2_untell_35 rfl (lv_at hl 1 rfl) ?_
  refine r_get F hK hP 0 7 rfl rfl in_X2 (by decide) k_165 rfl dX2_untell_36 ?_
  refine lv_iload_n hx hb dX2_untell_39 rfl (lv_at hl 0 rfl) ?_
  refine lv_bipush (v := (-2)) hx hb dX2_untell_40 (by decide) ?_
  refine r_iastX F hK hP hD hS 4 0 rfl rfl (bw_vin (by decide)) dX2_untell_42 (w1 := fun f5 => [(b, .inr (2, [.int Lx, .ref (q 0), .ref (q 1), .ref (q 2), .ref (q 3), .ref (q 4), .ref (q 5), .ref (q 6), .ref (q 7)])), ((q 0), .inl (cI, 10, .inl f1)), ((q 1), .inl (cI, 10, .inl f2)), ((q 2), .inl (cI, 10, .inl f3)), ((q 6), .inl (cI, 20, .inl f5)), ((q 7), .inl (cI, 20, .inl (fun _ => 0)))]) (fun _ => rfl) (fun f5 H locs hP hD hS => ?_)
  refine lv_aload_n hx hb dX2_untell_43 rfl (lv_at hl 1 rfl) ?_
  refine r_get F hK hP 0 8 rfl rfl in_X2 (by decide) k_169 rfl dX2_untell_44 ?_
  refine lv_iload_n hx hb dX2_untell_47 rfl (lv_at hl 0 rfl) ?_
  refine lv_iconst (v := 0) hx hb dX2_untell_48 (by decide) ?_
  refine r_iast F hK hP hD hS 5 0 rfl rfl (bw_vin (by decide)) dX2_untell_49 bw_upd0 (w1 := [(b, .inr (2, [.int Lx, .ref (q 0), .ref (q 1), .ref (q 2), .ref (q 3), .ref (q 4), .ref (q 5), .ref (q 6), .ref (q 7)])), ((q 0), .inl (cI, 10, .inl f1)), ((q 1), .inl (cI, 10, .inl f2)), ((q 2), .inl (cI, 10, .inl f3)), ((q 6), .inl (cI, 20, .inl f5)), ((q 7), .inl (cI, 20, .inl (fun _ => 0)))]) rfl (fun H locs hP hD hS => ?_)
  refine lv_iinc (v := 12) (lv' := [(2, .int 12), (0, .ref b), (1, .int 5)]) hx hb dX2_untell_50 hl (k := 0) rfl (by decide) (by decide) rfl (fun ls hl => ?_)
  refine lv_goto (tgt := 26) hx hb dX2_untell_53 (by decide) ?_
  refine lv_iload_n hx hb dX2_untell_26 rfl (lv_at hl 0 rfl) ?_
  refine lv_iconst (v := 2) hx hb dX2_untell_27 (by decide) ?_
  refine lv_iload_n hx hb dX2_untell_28 rfl (lv_at hl 2 rfl) ?_
  refine r_imul (v := 10) F dX2_untell_29 (by decide) ?_
  refine lv_iconst (v := 1) hx hb dX2_untell_30 (by decide) ?_
  refine r_iadd (v := 11) F dX2_untell_31 (by decide) ?_
  refine lv_icmp_gt (tgt := 56) hx hb dX2_untell_32 (by decide) (fun _ => ?_) (fun h9 => absurd (by decide) h9)
  exact ret (fun _ => 0, (fun k => [f1, f2, f3, f5].getD k (fun _ => 0))) _ _ _ _ _ _ trivial (bw_subP (isC := [0, 1, 2, 3, 4, 5]) hP rfl) (hD.sub [0, 1, 2, 3, 4, 5] (by decide) rfl) hS (Nat.le_of_ble_eq_true rfl) (Nat.le_of_ble_eq_true rfl) dX2_untell_56
abbrev rm_X2_untell_6 : Room := { frames := 0, cells := 0, slots := 0, locals := 0 }
set_option maxRecDepth 100000 in
set_option maxHeartbeats 4000000 in
theorem c_X2_untell_6 {l : Launch} {E : (Nat → Prop) → State → Prop} (hO : bw_Ok E) {G : va_G} {cI cB cJ cN cW : ClassId} (b : Nat) (q : Nat → Nat) (Lx : Int32) (f : Nat → Nat → Int32) : bw_Cv (S := bw_U) l yX2_untell (bw_ws (Cond.code yX2_untell cX2_untell 3 none)) rm_X2_untell_6 E G (bw_kt cI cB cJ cN cW) [.ref b, .int 6] [(b, .inr (2, [.int Lx, .ref (q 0), .ref (q 1), .ref (q 2), .ref (q 3), .ref (q 4), .ref (q 5), .ref (q 6), .ref (q 7)])), ((q 0), .inl (cI, 10, .inl (f 0))), ((q 1), .inl (cI, 10, .inl (f 1))), ((q 2), .inl (cI, 10, .inl (f 2))), ((q 6), .inl (cI, 20, .inl (f 3))), ((q 7), .inl (cI, 20, .inl (fun _ => 0)))] (fun _ => True) (fun u => [(b, .inr (2, [.int Lx, .ref (q 0), .ref (q 1), .ref (q 2), .ref (q 3), .ref (q 4), .ref (q 5), .ref (q 6), .ref (q 7)])), ((q 0), .inl (cI, 10, .inl (u.2 0))), ((q 1), .inl (cI, 10, .inl (u.2 1))), ((q 2), .inl (cI, 10, .inl (u.2 2))), ((q 6), .inl (cI, 20, .inl (u.2 3))), ((q 7), .inl (cI, 20, .inl (fun _ => 0)))]) := by
  refine bw_Cv.of (cc := cX2_untell) (maxL := 3) (by decide) rfl (Nat.le_of_ble_eq_true rfl) ?_
  intro p e s m below meth c A Q hx hb hml hts hown hin hK hA hS hP hD hE ret ls hl
  have F : CallFix p m c cX2_untell 3 s ([.ref b, .int 6] : List Value).toArray bw_T RX2 := ⟨hx, hb, hml, hown, fun w h => hts w (List.mem_cons_of_mem _ h)⟩
  have hl : lv_has ls 3 [(0, .ref b), (1, .int 6)] := hl
  refine lv_aload_n hx hb dX2_untell_0 rfl (lv_at hl 0 rfl) ?_
  refine r_get F hK hP 0 1 rfl rfl in_X2 (by decide) k_147 rfl dX2_untell_1 ?_
  refine lv_iload_n hx hb dX2_untell_4 rfl (lv_at hl 1 rfl) ?_
  refine lv_iconst (v := (-1)) hx hb dX2_untell_5 (by decide) ?_
  refine r_iastX F hK hP hD hS 1 0 rfl rfl (bw_vin (by decide)) dX2_untell_6 (w1 := fun f1 => [(b, .inr (2, [.int Lx, .ref (q 0), .ref (q 1), .ref (q 2), .ref (q 3), .ref (q 4), .ref (q 5), .ref (q 6), .ref (q 7)])), ((q 0), .inl (cI, 10, .inl f1)), ((q 1), .inl (cI, 10, .inl (f 1))), ((q 2), .inl (cI, 10, .inl (f 2))), ((q 6), .inl (cI, 20, .inl (f 3))), ((q 7), .inl (cI, 20, .inl (fun _ => 0)))]) (fun _ => rfl) (fun f1 H locs hP hD hS => ?_)
  refine lv_aload_n hx hb dX2_untell_7 rfl (lv_at hl 0 rfl) ?_
  refine r_get F hK hP 0 2 rfl rfl in_X2 (by decide) k_150 rfl dX2_untell_8 ?_
  refine lv_iload_n hx hb dX2_untell_11 rfl (lv_at hl 1 rfl) ?_
  refine lv_bipush (v := (-2)) hx hb dX2_untell_12 (by decide) ?_
  refine r_iastX F hK hP hD hS 2 0 rfl rfl (bw_vin (by decide)) dX2_untell_14 (w1 := fun f2 => [(b, .inr (2, [.int Lx, .ref (q 0), .ref (q 1), .ref (q 2), .ref (q 3), .ref (q 4), .ref (q 5), .ref (q 6), .ref (q 7)])), ((q 0), .inl (cI, 10, .inl f1)), ((q 1), .inl (cI, 10, .inl f2)), ((q 2), .inl (cI, 10, .inl (f 2))), ((q 6), .inl (cI, 20, .inl (f 3))), ((q 7), .inl (cI, 20, .inl (fun _ => 0)))]) (fun _ => rfl) (fun f2 H locs hP hD hS => ?_)
  refine lv_aload_n hx hb dX2_untell_15 rfl (lv_at hl 0 rfl) ?_
  refine r_get F hK hP 0 3 rfl rfl in_X2 (by decide) k_153 rfl dX2_untell_16 ?_
  refine lv_iload_n hx hb dX2_untell_19 rfl (lv_at hl 1 rfl) ?_
  refine lv_iconst (v := 0) hx hb dX2_untell_20 (by decide) ?_
  refine r_iastX F hK hP hD hS 3 0 rfl rfl (bw_vin (by decide)) dX2_untell_21 (w1 := fun f3 => [(b, .inr (2, [.int Lx, .ref (q 0), .ref (q 1), .ref (q 2), .ref (q 3), .ref (q 4), .ref (q 5), .ref (q 6), .ref (q 7)])), ((q 0), .inl (cI, 10, .inl f1)), ((q 1), .inl (cI, 10, .inl f2)), ((q 2), .inl (cI, 10, .inl f3)), ((q 6), .inl (cI, 20, .inl (f 3))), ((q 7), .inl (cI, 20, .inl (fun _ => 0)))]) (fun _ => rfl) (fun f3 H locs hP hD hS => ?_)
  refine lv_iconst (v := 2) hx hb dX2_untell_22 (by decide) ?_
  refine lv_iload_n hx hb dX2_untell_23 rfl (lv_at hl 1 rfl) ?_
  refine r_imul (v := 12) F dX2_untell_24 (by decide) ?_
  refine lv_istore_n (lv' := [(2, .int 12), (0, .ref b), (1, .int 6)]) hx hb dX2_untell_25 rfl hl (by decide) rfl (fun ls hl => ?_)
  refine lv_iload_n hx hb dX2_untell_26 rfl (lv_at hl 0 rfl) ?_
  refine lv_iconst (v := 2) hx hb dX2_untell_27 (by decide) ?_
  refine lv_iload_n hx hb dX2_untell_28 rfl (lv_at hl 2 rfl) ?_
  refine r_imul (v := 12) F dX2_untell_29 (by decide) ?_
  refine lv_iconst (v := 1) hx hb dX2_untell_30 (by decide) ?_
  refine r_iadd (v := 13) F dX2_untell_31 (by decide) ?_
  refine lv_icmp_gt (tgt := 56) hx hb dX2_untell_32 (by decide) (fun h9 => absurd h9 (by decide)) (fun _ => ?_)
  refine lv_aload_n hx hb dX2_untell_35 rfl (lv_at hl 1 rfl) ?_
  refine r_get F hK hP 0 7 rfl rfl in_X2 (by decide) k_165 rfl dX2_untell_36 ?_
  refine lv_iload_n hx hb dX2_untell_39 rfl (lv_at hl 0 rfl) ?_
  refine lv_bipush (v := (-2)) hx hb dX2_untell_40 (by decide) ?_
  refine r_iastX F hK hP hD hS 4 0 rfl rfl (bw_vin (by decide)) dX2_untell_42 (w1 := fun f4 => [(b, .inr (2, [.int Lx, .ref (q 0), .ref (q 1), .ref (q 2), .ref (q 3), .ref (q 4), .ref (q 5), .ref (q 6), .ref (q 7)])), ((q 0), .inl (cI, 10, .inl f1)), ((q 1), .inl (cI, 10, .inl f2)), ((q 2), .inl (cI, 10, .inl f3)), ((q 6), .inl (cI, 20, .inl f4)), ((q 7), .inl (cI, 20, .inl (fun _ => 0)))]) (fun _ => rfl) (fun f4 H locs hP hD hS => ?_)
  refine lv_aload_n hx hb dX2_untell_43 rfl (lv_at hl 1 rfl) ?_
  refine r_get F hK hP 0 8 rfl rfl in_X2 (by decide) k_169 rfl dX2_untell_44 ?_
  refine lv_iload_n hx hb dX2_untell_47 rfl (lv_at hl 0 rfl) ?_
  refine lv_iconst (v := 0) hx hb dX2_untell_48 (by decide) ?_
  refine r_iast F hK hP hD hS 5 0 rfl rfl (bw_vin (by decide)) dX2_untell_49 bw_upd0 (w1 := [(b, .inr (2, [.int Lx, .ref (q 0), .ref (q 1), .ref (q 2), .ref (q 3), .ref (q 4), .ref (q 5), .ref (q 6), .ref (q 7)])), ((q 0), .inl (cI, 10, .inl f1)), ((q 1), .inl (cI, 10, .inl f2)), ((q 2), .inl (cI, 10, .inl f3)), ((q 6), .inl (cI, 20, .inl f4)), ((q 7), .inl (cI, 20, .inl (fun _ => 0)))]) rfl (fun H locs hP hD hS => ?_)
  refine lv_iinc (v := 13) (lv' := [(2, .int 13), (0, .ref b), (1, .int 6)]) hx hb dX2_untell_50 hl (k := 0) rfl (by decide) (by decide) rfl (fun ls hl => ?_)
  refine lv_goto (tgt := 26) hx hb dX2_untell_53 (by decide) ?_
  refine lv_iload_n hx hb dX2_untell_26 rfl (lv_at hl 0 rfl) ?_
  refine lv_iconst (v := 2) hx hb dX2_untell_27 (by decide) ?_
  refine lv_iload_n hx hb dX2_untell_28 rfl (lv_at hl 2 rfl) ?_
  refine r_imul (v := 12) F dX2_untell_29 (by decide) ?_
  refine lv_iconst (v := 1) hx hb dX2_untell_30 (by decide) ?_
  refine r_iadd (v := 13) F dX2_untell_31 (by decide) ?_
  refine lv_icmp_gt (tgt := 56) hx hb dX2_untell_32 (by decide) (fun h9 => absurd h9 (by decide)) (fun _ => ?_)
  refine lv_aload_n hx hb dX2_untell_35 rfl (lv_at hl 1 rfl) ?_
  refine r_get F hK hP 0 7 rfl rfl in_X2 (by decide) k_165 rfl dX2_untell_36 ?_
  refine lv_iload_n hx hb dX2_untell_39 rfl (lv_at hl 0 rfl) ?_
  refine lv_bipush (v := (-2)) hx hb dX2_untell_40 (by decide) ?_
  refine r_iastX F hK hP hD hS 4 0 rfl rfl (bw_vin (by decide)) dX2_untell_42 (w1 := fun f5 => [(b, .inr (2, [.int Lx, .ref (q 0), .ref (q 1), .ref (q 2), .ref (q 3), .ref (q 4), .ref (q 5), .ref (q 6), .ref (q 7)])), ((q 0), .inl (cI, 10, .inl f1)), ((q 1), .inl (cI, 10, .inl f2)), ((q 2), .inl (cI, 10, .inl f3)), ((q 6), .inl (cI, 20, .inl f5)), ((q 7), .inl (cI, 20, .inl (fun _ => 0)))]) (fun _ => rfl) (fun f5 H locs hP hD hS => ?_)
  refine lv_aload_n hx hb dX2_untell_43 rfl (lv_at hl 1 rfl) ?_
  refine r_get F hK hP 0 8 rfl rfl in_X2 (by decide) k_169 rfl dX2_untell_44 ?_
  refine lv_iload_n hx hb dX2_untell_47 rfl (lv_at hl 0 rfl) ?_
  refine lv_iconst (v := 0) hx hb dX2_untell_48 (by decide) ?_
  refine r_iast F hK hP hD hS 5 0 rfl rfl (bw_vin (by decide)) dX2_untell_49 bw_upd0 (w1 := [(b, .inr (2, [.int Lx, .ref (q 0), .ref (q 1), .ref (q 2), .ref (q 3), .ref (q 4), .ref (q 5), .ref (q 6), .ref (q 7)])), ((q 0), .inl (cI, 10, .inl f1)), ((q 1), .inl (cI, 10, .inl f2)), ((q 2), .inl (cI, 10, .inl f3)), ((q 6), .inl (cI, 20, .inl f5)), ((q 7), .inl (cI, 20, .inl (fun _ => 0)))]) rfl (fun H locs hP hD hS => ?_)
  refine lv_iinc (v := 14) (lv' := [(2, .int 14), (0, .ref b), (1, .int 6)]) hx hb dX2_untell_50 hl (k := 0) rfl (by decide) (by decide) rfl (fun ls hl => ?_)
  refine lv_goto (tgt := 26) hx hb dX2_untell_53 (by decide) ?_
  refine lv_iload_n hx hb dX2_untell_26 rfl (lv_at hl 0 rfl) ?_
  refine lv_iconst (v := 2) hx hb dX2_untell_27 (by decide) ?_
  refine lv_iload_n hx hb dX2_untell_28 rfl (lv_at hl 2 rfl) ?_
  refine r_imul (v := 12) F dX2_untell_29 (by decide) ?_
  refine lv_iconst (v := 1) hx hb dX2_untell_30 (by decide) ?_
  refine r_iadd (v := 13) F dX2_untell_31 (by decide) ?_
  refine lv_icmp_gt (tgt := 56) hx hb dX2_untell_32 (by decide) (fun _ => ?_) (fun h9 => absurd (by decide) h9)
  exact ret (fun _ => 0, (fun k => [f1, f2, f3, f5].getD k (fun _ => 0))) _ _ _ _ _ _ trivial (bw_subP (isC := [0, 1, 2, 3, 4, 5]) hP rfl) (hD.sub [0, 1, 2, 3, 4, 5] (by decide) rfl) hS (Nat.le_of_ble_eq_true rfl) (Nat.le_of_ble_eq_true rfl) dX2_untell_56
abbrev rm_X2_untell_7 : Room := { frames := 0, cells := 0, slots := 0, locals := 0 }
set_option maxRecDepth 100000 in
set_option maxHeartbeats 4000000 in
theorem c_X2_untell_7 {l : Launch} {E : (Nat → Prop) → State → Prop} (hO : bw_Ok E) {G : va_G} {cI cB cJ cN cW : ClassId} (b : Nat) (q : Nat → Nat) (Lx : Int32) (f : Nat → Nat → Int32) : bw_Cv (S := bw_U) l yX2_untell (bw_ws (Cond.code yX2_untell cX2_untell 3 none)) rm_X2_untell_7 E G (bw_kt cI cB cJ cN cW) [.ref b, .int 7] [(b, .inr (2, [.int Lx, .ref (q 0), .ref (q 1), .ref (q 2), .ref (q 3), .ref (q 4), .ref (q 5), .ref (q 6), .ref (q 7)])), ((q 0), .inl (cI, 10, .inl (f 0))), ((q 1), .inl (cI, 10, .inl (f 1))), ((q 2), .inl (cI, 10, .inl (f 2))), ((q 6), .inl (cI, 20, .inl (f 3))), ((q 7), .inl (cI, 20, .inl (fun _ => 0)))] (fun _ => True) (fun u => [(b, .inr (2, [.int Lx, .ref (q 0), .ref (q 1), .ref (q 2), .ref (q 3), .ref (q 4), .ref (q 5), .ref (q 6), .ref (q 7)])), ((q 0), .inl (cI, 10, .inl (u.2 0))), ((q 1), .inl (cI, 10, .inl (u.2 1))), ((q 2), .inl (cI, 10, .inl (u.2 2))), ((q 6), .inl (cI, 20, .inl (u.2 3))), ((q 7), .inl (cI, 20, .inl (fun _ => 0)))]) := by
  refine bw_Cv.of (cc := cX2_untell) (maxL := 3) (by decide) rfl (Nat.le_of_ble_eq_true rfl) ?_
  intro p e s m below meth c A Q hx hb hml hts hown hin hK hA hS hP hD hE ret ls hl
  have F : CallFix p m c cX2_untell 3 s ([.ref b, .int 7] : List Value).toArray bw_T RX2 := ⟨hx, hb, hml, hown, fun w h => hts w (List.mem_cons_of_mem _ h)⟩
  have hl : lv_has ls 3 [(0, .ref b), (1, .int 7)] := hl
  refine lv_aload_n hx hb dX2_untell_0 rfl (lv_at hl 0 rfl) ?_
  refine r_get F hK hP 0 1 rfl rfl in_X2 (by decide) k_147 rfl dX2_untell_1 ?_
  refine lv_iload_n hx hb dX2_untell_4 rfl (lv_at hl 1 rfl) ?_
  refine lv_iconst (v := (-1)) hx hb dX2_untell_5 (by decide) ?_
  refine r_iastX F hK hP hD hS 1 0 rfl rfl (bw_vin (by decide)) dX2_untell_6 (w1 := fun f1 => [(b, .inr (2, [.int Lx, .ref (q 0), .ref (q 1), .ref (q 2), .ref (q 3), .ref (q 4), .ref (q 5), .ref (q 6), .ref (q 7)])), ((q 0), .inl (cI, 10, .inl f1)), ((q 1), .inl (cI, 10, .inl (f 1))), ((q 2), .inl (cI, 10, .inl (f 2))), ((q 6), .inl (cI, 20, .inl (f 3))), ((q 7), .inl (cI, 20, .inl (fun _ => 0)))]) (fun _ => rfl) (fun f1 H locs hP hD hS => ?_)
  refine lv_aload_n hx hb dX2_untell_7 rfl (lv_at hl 0 rfl) ?_
  refine r_get F hK hP 0 2 rfl rfl in_X2 (by decide) k_150 rfl dX2_untell_8 ?_
  refine lv_iload_n hx hb dX2_untell_11 rfl (lv_at hl 1 rfl) ?_
  refine lv_bipush (v := (-2)) hx hb dX2_untell_12 (by decide) ?_
  refine r_iastX F hK hP hD hS 2 0 rfl rfl (bw_vin (by decide)) dX2_untell_14 (w1 := fun f2 => [(b, .inr (2, [.int Lx, .ref (q 0), .ref (q 1), .ref (q 2), .ref (q 3), .ref (q 4), .ref (q 5), .ref (q 6), .ref (q 7)])), ((q 0), .inl (cI, 10, .inl f1)), ((q 1), .inl (cI, 10, .inl f2)), ((q 2), .inl (cI, 10, .inl (f 2))), ((q 6), .inl (cI, 20, .inl (f 3))), ((q 7), .inl (cI, 20, .inl (fun _ => 0)))]) (fun _ => rfl) (fun f2 H locs hP hD hS => ?_)
  refine lv_aload_n hx hb dX2_untell_15 rfl (lv_at hl 0 rfl) ?_
  refine r_get F hK hP 0 3 rfl rfl in_X2 (by decide) k_153 rfl dX2_untell_16 ?_
  refine lv_iload_n hx hb dX2_untell_19 rfl (lv_at hl 1 rfl) ?_
  refine lv_iconst (v := 0) hx hb dX2_untell_20 (by decide) ?_
  refine r_iastX F hK hP hD hS 3 0 rfl rfl (bw_vin (by decide)) dX2_untell_21 (w1 := fun f3 => [(b, .inr (2, [.int Lx, .ref (q 0), .ref (q 1), .ref (q 2), .ref (q 3), .ref (q 4), .ref (q 5), .ref (q 6), .ref (q 7)])), ((q 0), .inl (cI, 10, .inl f1)), ((q 1), .inl (cI, 10, .inl f2)), ((q 2), .inl (cI, 10, .inl f3)), ((q 6), .inl (cI, 20, .inl (f 3))), ((q 7), .inl (cI, 20, .inl (fun _ => 0)))]) (fun _ => rfl) (fun f3 H locs hP hD hS => ?_)
  refine lv_iconst (v := 2) hx hb dX2_untell_22 (by decide) ?_
  refine lv_iload_n hx hb dX2_untell_23 rfl (lv_at hl 1 rfl) ?_
  refine r_imul (v := 14) F dX2_untell_24 (by decide) ?_
  refine lv_istore_n (lv' := [(2, .int 14), (0, .ref b), (1, .int 7)]) hx hb dX2_untell_25 rfl hl (by decide) rfl (fun ls hl => ?_)
  refine lv_iload_n hx hb dX2_untell_26 rfl (lv_at hl 0 rfl) ?_
  refine lv_iconst (v := 2) hx hb dX2_untell_27 (by decide) ?_
  refine lv_iload_n hx hb dX2_untell_28 rfl (lv_at hl 2 rfl) ?_
  refine r_imul (v := 14) F dX2_untell_29 (by decide) ?_
  refine lv_iconst (v := 1) hx hb dX2_untell_30 (by decide) ?_
  refine r_iadd (v := 15) F dX2_untell_31 (by decide) ?_
  refine lv_icmp_gt (tgt := 56) hx hb dX2_untell_32 (by decide) (fun h9 => absurd h9 (by decide)) (fun _ => ?_)
  refine lv_aload_n hx hb dX2_untell_35 rfl (lv_at hl 1 rfl) ?_
  refine r_get F hK hP 0 7 rfl rfl in_X2 (by decide) k_165 rfl dX2_untell_36 ?_
  refine lv_iload_n hx hb dX2_untell_39 rfl (lv_at hl 0 rfl) ?_
  refine lv_bipush (v := (-2)) hx hb dX2_untell_40 (by decide) ?_
  refine r_iastX F hK hP hD hS 4 0 rfl rfl (bw_vin (by decide)) dX2_untell_42 (w1 := fun f4 => [(b, .inr (2, [.int Lx, .ref (q 0), .ref (q 1), .ref (q 2), .ref (q 3), .ref (q 4), .ref (q 5), .ref (q 6), .ref (q 7)])), ((q 0), .inl (cI, 10, .inl f1)), ((q 1), .inl (cI, 10, .inl f2)), ((q 2), .inl (cI, 10, .inl f3)), ((q 6), .inl (cI, 20, .inl f4)), ((q 7), .inl (cI, 20, .inl (fun _ => 0)))]) (fun _ => rfl) (fun f4 H locs hP hD hS => ?_)
  refine lv_aload_n hx hb dX2_untell_43 rfl (lv_at hl 1 rfl) ?_
  refine r_get F hK hP 0 8 rfl rfl in_X2 (by decide) k_169 rfl dX2_untell_44 ?_
  refine lv_iload_n hx hb dX2_untell_47 rfl (lv_at hl 0 rfl) ?_
  refine lv_iconst (v := 0) hx hb dX2_untell_48 (by decide) ?_
  refine r_iast F hK hP hD hS 5 0 rfl rfl (bw_vin (by decide)) dX2_untell_49 bw_upd0 (w1 := [(b, .inr (2, [.int Lx, .ref (q 0), .ref (q 1), .ref (q 2), .ref (q 3), .ref (q 4), .ref (q 5), .ref (q 6), .ref (q 7)])), ((q 0), .inl (cI, 10, .inl f1)), ((q 1), .inl (cI, 10, .inl f2)), ((q 2), .inl (cI, 10, .inl f3)), ((q 6), .inl (cI, 20, .inl f4)), ((q 7), .inl (cI, 20, .inl (fun _ => 0)))]) rfl (fun H locs hP hD hS => ?_)
  refine lv_iinc (v := 15) (lv' := [(2, .int 15), (0, .ref b), (1, .int 7)]) hx hb dX2_untell_50 hl (k := 0) rfl (by decide) (by decide) rfl (fun ls hl => ?_)
  refine lv_goto (tgt := 26) hx hb dX2_untell_53 (by decide) ?_
  refine lv_iload_n hx hb dX2_untell_26 rfl (lv_at hl 0 rfl) ?_
  refine lv_iconst (v := 2) hx hb dX2_untell_27 (by decide) ?_
  refine lv_iload_n hx hb dX2_untell_28 rfl (lv_at hl 2 rfl) ?_
  refine r_imul (v := 14) F dX2_untell_29 (by decide) ?_
  refine lv_iconst (v := 1) hx hb dX2_untell_30 (by decide) ?_
  refine r_iadd (v := 15) F dX2_untell_31 (by decide) ?_
  refine lv_icmp_gt (tgt := 56) hx hb dX2_untell_32 (by decide) (fun h9 => absurd h9 (by decide)) (fun _ => ?_)
  refine lv_aload_n hx hb dX2_untell_35 rfl (lv_at hl 1 rfl) ?_
  refine r_get F hK hP 0 7 rfl rfl in_X2 (by decide) k_165 rfl dX2_untell_36 ?_
  refine lv_iload_n hx hb dX2_untell_39 rfl (lv_at hl 0 rfl) ?_
  refine lv_bipush (v := (-2)) hx hb dX2_untell_40 (by decide) ?_
  refine r_iastX F hK hP hD hS 4 0 rfl rfl (bw_vin (by decide)) dX2_untell_42 (w1 := fun f5 => [(b, .inr (2, [.int Lx, .ref (q 0), .ref (q 1), .ref (q 2), .ref (q 3), .ref (q 4), .ref (q 5), .ref (q 6), .ref (q 7)])), ((q 0), .inl (cI, 10, .inl f1)), ((q 1), .inl (cI, 10, .inl f2)), ((q 2), .inl (cI, 10, .inl f3)), ((q 6), .inl (cI, 20, .inl f5)), ((q 7), .inl (cI, 20, .inl (fun _ => 0)))]) (fun _ => rfl) (fun f5 H locs hP hD hS => ?_)
  refine lv_aload_n hx hb dX2_untell_43 rfl (lv_at hl 1 rfl) ?_
  refine r_get F hK hP 0 8 rfl rfl in_X2 (by decide) k_169 rfl dX2_untell_44 ?_
  refine lv_iload_n hx hb dX2_untell_47 rfl (lv_at hl 0 rfl) ?_
  refine lv_iconst (v := 0) hx hb dX2_untell_48 (by decide) ?_
  refine r_iast F hK hP hD hS 5 0 rfl rfl (bw_vin (by decide)) dX2_untell_49 bw_upd0 (w1 := [(b, .inr (2, [.int Lx, .ref (q 0), .ref (q 1), .ref (q 2), .ref (q 3), .ref (q 4), .ref (q 5), .ref (q 6), .ref (q 7)])), ((q 0), .inl (cI, 10, .inl f1)), ((q 1), .inl (cI, 10, .inl f2)), ((q 2), .inl (cI, 10, .inl f3)), ((q 6), .inl (cI, 20, .inl f5)), ((q 7), .inl (cI, 20, .inl (fun _ => 0)))]) rfl (fun H locs hP hD hS => ?_)
  refine lv_iinc (v := 16) (lv' := [(2, .int 16), (0, .ref b), (1, .int 7)]) hx hb dX2_untell_50 hl (k := 0) rfl (by decide) (by decide) rfl (fun ls hl => ?_)
  refine lv_goto (tgt := 26) hx hb dX2_untell_53 (by decide) ?_
  refine lv_iload_n hx hb dX2_untell_26 rfl (lv_at hl 0 rfl) ?_
  refine lv_iconst (v := 2) hx hb dX2_untell_27 (by decide) ?_
  refine lv_iload_n hx hb dX2_untell_28 rfl (lv_at hl 2 rfl) ?_
  refine r_imul (v := 14) F dX2_untell_29 (by decide) ?_
  refine lv_iconst (v := 1) hx hb dX2_untell_30 (by decide) ?_
  refine r_iadd (v := 15) F dX2_untell_31 (by decide) ?_
  refine lv_icmp_gt (tgt := 56) hx hb dX2_untell_32 (by decide) (fun _ => ?_) (fun h9 => absurd (by decide) h9)
  exact ret (fun _ => 0, (fun k => [f1, f2, f3, f5].getD k (fun _ => 0))) _ _ _ _ _ _ trivial (bw_subP (isC := [0, 1, 2, 3, 4, 5]) hP rfl) (hD.sub [0, 1, 2, 3, 4, 5] (by decide) rfl) hS (Nat.le_of_ble_eq_true rfl) (Nat.le_of_ble_eq_true rfl) dX2_untell_56
abbrev rm_X2_untell_8 : Room := { frames := 0, cells := 0, slots := 0, locals := 0 }
set_option maxRecDepth 100000 in
set_option maxHeartbeats 4000000 in
theorem c_X2_untell_8 {l : Launch} {E : (Nat → Prop) → State → Prop} (hO : bw_Ok E) {G : va_G} {cI cB cJ cN cW : ClassId} (b : Nat) (q : Nat → Nat) (Lx : Int32) (f : Nat → Nat → Int32) : bw_Cv (S := bw_U) l yX2_untell (bw_ws (Cond.code yX2_untell cX2_untell 3 none)) rm_X2_untell_8 E G (bw_kt cI cB cJ cN cW) [.ref b, .int 8] [(b, .inr (2, [.int Lx, .ref (q 0), .ref (q 1), .ref (q 2), .ref (q 3), .ref (q 4), .ref (q 5), .ref (q 6), .ref (q 7)])), ((q 0), .inl (cI, 10, .inl (f 0))), ((q 1), .inl (cI, 10, .inl (f 1))), ((q 2), .inl (cI, 10, .inl (f 2))), ((q 6), .inl (cI, 20, .inl (f 3))), ((q 7), .inl (cI, 20, .inl (fun _ => 0)))] (fun _ => True) (fun u => [(b, .inr (2, [.int Lx, .ref (q 0), .ref (q 1), .ref (q 2), .ref (q 3), .ref (q 4), .ref (q 5), .ref (q 6), .ref (q 7)])), ((q 0), .inl (cI, 10, .inl (u.2 0))), ((q 1), .inl (cI, 10, .inl (u.2 1))), ((q 2), .inl (cI, 10, .inl (u.2 2))), ((q 6), .inl (cI, 20, .inl (u.2 3))), ((q 7), .inl (cI, 20, .inl (fun _ => 0)))]) := by
  refine bw_Cv.of (cc := cX2_untell) (maxL := 3) (by decide) rfl (Nat.le_of_ble_eq_true rfl) ?_
  intro p e s m below meth c A Q hx hb hml hts hown hin hK hA hS hP hD hE ret ls hl
  have F : CallFix p m c cX2_untell 3 s ([.ref b, .int 8] : List Value).toArray bw_T RX2 := ⟨hx, hb, hml, hown, fun w h => hts w (List.mem_cons_of_mem _ h)⟩
  have hl : lv_has ls 3 [(0, .ref b), (1, .int 8)] := hl
  refine lv_aload_n hx hb dX2_untell_0 rfl (lv_at hl 0 rfl) ?_
  refine r_get F hK hP 0 1 rfl rfl in_X2 (by decide) k_147 rfl dX2_untell_1 ?_
  refine lv_iload_n hx hb dX2_untell_4 rfl (lv_at hl 1 rfl) ?_
  refine lv_iconst (v := (-1)) hx hb dX2_untell_5 (by decide) ?_
  refine r_iastX F hK hP hD hS 1 0 rfl rfl (bw_vin (by decide)) dX2_untell_6 (w1 := fun f1 => [(b, .inr (2, [.int Lx, .ref (q 0), .ref (q 1), .ref (q 2), .ref (q 3), .ref (q 4), .ref (q 5), .ref (q 6), .ref (q 7)])), ((q 0), .inl (cI, 10, .inl f1)), ((q 1), .inl (cI, 10, .inl (f 1))), ((q 2), .inl (cI, 10, .inl (f 2))), ((q 6), .inl (cI, 20, .inl (f 3))), ((q 7), .inl (cI, 20, .inl (fun _ => 0)))]) (fun _ => rfl) (fun f1 H locs hP hD hS => ?_)
  refine lv_aload_n hx hb dX2_untell_7 rfl (lv_at hl 0 rfl) ?_
  refine r_get F hK hP 0 2 rfl rfl in_X2 (by decide) k_150 rfl dX2_untell_8 ?_
  refine lv_iload_n hx hb dX2_untell_11 rfl (lv_at hl 1 rfl) ?_
  refine lv_bipush (v := (-2)) hx hb dX2_untell_12 (by decide) ?_
  refine r_iastX F hK hP hD hS 2 0 rfl rfl (bw_vin (by decide)) dX2_untell_14 (w1 := fun f2 => [(b, .inr (2, [.int Lx, .ref (q 0), .ref (q 1), .ref (q 2), .ref (q 3), .ref (q 4), .ref (q 5), .ref (q 6), .ref (q 7)])), ((q 0), .inl (cI, 10, .inl f1)), ((q 1), .inl (cI, 10, .inl f2)), ((q 2), .inl (cI, 10, .inl (f 2))), ((q 6), .inl (cI, 20, .inl (f 3))), ((q 7), .inl (cI, 20, .inl (fun _ => 0)))]) (fun _ => rfl) (fun f2 H locs hP hD hS => ?_)
  refine lv_aload_n hx hb dX2_untell_15 rfl (lv_at hl 0 rfl) ?_
  refine r_get F hK hP 0 3 rfl rfl in_X2 (by decide) k_153 rfl dX2_untell_16 ?_
  refine lv_iload_n hx hb dX2_untell_19 rfl (lv_at hl 1 rfl) ?_
  refine lv_iconst (v := 0) hx hb dX2_untell_20 (by decide) ?_
  refine r_iastX F hK hP hD hS 3 0 rfl rfl (bw_vin (by decide)) dX2_untell_21 (w1 := fun f3 => [(b, .inr (2, [.int Lx, .ref (q 0), .ref (q 1), .ref (q 2), .ref (q 3), .ref (q 4), .ref (q 5), .ref (q 6), .ref (q 7)])), ((q 0), .inl (cI, 10, .inl f1)), ((q 1), .inl (cI, 10, .inl f2)), ((q 2), .inl (cI, 10, .inl f3)), ((q 6), .inl (cI, 20, .inl (f 3))), ((q 7), .inl (cI, 20, .inl (fun _ => 0)))]) (fun _ => rfl) (fun f3 H locs hP hD hS => ?_)
  refine lv_iconst (v := 2) hx hb dX2_untell_22 (by decide) ?_
  refine lv_iload_n hx hb dX2_untell_23 rfl (lv_at hl 1 rfl) ?_
  refine r_imul (v := 16) F dX2_untell_24 (by decide) ?_
  refine lv_istore_n (lv' := [(2, .int 16), (0, .ref b), (1, .int 8)]) hx hb dX2_untell_25 rfl hl (by decide) rfl (fun ls hl => ?_)
  refine lv_iload_n hx hb dX2_untell_26 rfl (lv_at hl 0 rfl) ?_
  refine lv_iconst (v := 2) hx hb dX2_untell_27 (by decide) ?_
  refine lv_iload_n hx hb dX2_untell_28 rfl (lv_at hl 2 rfl) ?_
  refine r_imul (v := 16) F dX2_untell_29 (by decide) ?_
  refine lv_iconst (v := 1) hx hb dX2_untell_30 (by decide) ?_
  refine r_iadd (v := 17) F dX2_untell_31 (by decide) ?_
  refine lv_icmp_gt (tgt := 56) hx hb dX2_untell_32 (by decide) (fun h9 => absurd h9 (by decide)) (fun _ => ?_)
  refine lv_aload_n hx hb dX2_untell_35 rfl (lv_at hl 1 rfl) ?_
  refine r_get F hK hP 0 7 rfl rfl in_X2 (by decide) k_165 rfl dX2_untell_36 ?_
  refine lv_iload_n hx hb dX2_untell_39 rfl (lv_at hl 0 rfl) ?_
  refine lv_bipush (v := (-2)) hx hb dX2_untell_40 (by decide) ?_
  refine r_iastX F hK hP hD hS 4 0 rfl rfl (bw_vin (by decide)) dX2_untell_42 (w1 := fun f4 => [(b, .inr (2, [.int Lx, .ref (q 0), .ref (q 1), .ref (q 2), .ref (q 3), .ref (q 4), .ref (q 5), .ref (q 6), .ref (q 7)])), ((q 0), .inl (cI, 10, .inl f1)), ((q 1), .inl (cI, 10, .inl f2)), ((q 2), .inl (cI, 10, .inl f3)), ((q 6), .inl (cI, 20, .inl f4)), ((q 7), .inl (cI, 20, .inl (fun _ => 0)))]) (fun _ => rfl) (fun f4 H locs hP hD hS => ?_)
  refine lv_aload_n hx hb dX2_untell_43 rfl (lv_at hl 1 rfl) ?_
  refine r_get F hK hP 0 8 rfl rfl in_X2 (by decide) k_169 rfl dX2_untell_44 ?_
  refine lv_iload_n hx hb dX2_untell_47 rfl (lv_at hl 0 rfl) ?_
  refine lv_iconst (v := 0) hx hb dX2_untell_48 (by decide) ?_
  refine r_iast F hK hP hD hS 5 0 rfl rfl (bw_vin (by decide)) dX2_untell_49 bw_upd0 (w1 := [(b, .inr (2, [.int Lx, .ref (q 0), .ref (q 1), .ref (q 2), .ref (q 3), .ref (q 4), .ref (q 5), .ref (q 6), .ref (q 7)])), ((q 0), .inl (cI, 10, .inl f1)), ((q 1), .inl (cI, 10, .inl f2)), ((q 2), .inl (cI, 10, .inl f3)), ((q 6), .inl (cI, 20, .inl f4)), ((q 7), .inl (cI, 20, .inl (fun _ => 0)))]) rfl (fun H locs hP hD hS => ?_)
  refine lv_iinc (v := 17) (lv' := [(2, .int 17), (0, .ref b), (1, .int 8)]) hx hb dX2_untell_50 hl (k := 0) rfl (by decide) (by decide) rfl (fun ls hl => ?_)
  refine lv_goto (tgt := 26) hx hb dX2_untell_53 (by decide) ?_
  refine lv_iload_n hx hb dX2_untell_26 rfl (lv_at hl 0 rfl) ?_
  refine lv_iconst (v := 2) hx hb dX2_untell_27 (by decide) ?_
  refine lv_iload_n hx hb dX2_untell_28 rfl (lv_at hl 2 rfl) ?_
  refine r_imul (v := 16) F dX2_untell_29 (by decide) ?_
  refine lv_iconst (v := 1) hx hb dX2_untell_30 (by decide) ?_
  refine r_iadd (v := 17) F dX2_untell_31 (by decide) ?_
  refine lv_icmp_gt (tgt := 56) hx hb dX2_untell_32 (by decide) (fun h9 => absurd h9 (by decide)) (fun _ => ?_)
  refine lv_aload_n hx hb dX2_untell_35 rfl (lv_at hl 1 rfl) ?_
  refine r_get F hK hP 0 7 rfl rfl in_X2 (by decide) k_165 rfl dX2_untell_36 ?_
  refine lv_iload_n hx hb dX2_untell_39 rfl (lv_at hl 0 rfl) ?_
  refine lv_bipush (v := (-2)) hx hb dX2_untell_40 (by decide) ?_
  refine r_iastX F hK hP hD hS 4 0 rfl rfl (bw_vin (by decide)) dX2_untell_42 (w1 := fun f5 => [(b, .inr (2, [.int Lx, .ref (q 0), .ref (q 1), .ref (q 2), .ref (q 3), .ref (q 4), .ref (q 5), .ref (q 6), .ref (q 7)])), ((q 0), .inl (cI, 10, .inl f1)), ((q 1), .inl (cI, 10, .inl f2)), ((q 2), .inl (cI, 10, .inl f3)), ((q 6), .inl (cI, 20, .inl f5)), ((q 7), .inl (cI, 20, .inl (fun _ => 0)))]) (fun _ => rfl) (fun f5 H locs hP hD hS => ?_)
  refine lv_aload_n hx hb dX2_untell_43 rfl (lv_at hl 1 rfl) ?_
  refine r_get F hK hP 0 8 rfl rfl in_X2 (by decide) k_169 rfl dX2_untell_44 ?_
  refine lv_iload_n hx hb dX2_untell_47 rfl (lv_at hl 0 rfl) ?_
  refine lv_iconst (v := 0) hx hb dX2_untell_48 (by decide) ?_
  refine r_iast F hK hP hD hS 5 0 rfl rfl (bw_vin (by decide)) dX2_untell_49 bw_upd0 (w1 := [(b, .inr (2, [.int Lx, .ref (q 0), .ref (q 1), .ref (q 2), .ref (q 3), .ref (q 4), .ref (q 5), .ref (q 6), .ref (q 7)])), ((q 0), .inl (cI, 10, .inl f1)), ((q 1), .inl (cI, 10, .inl f2)), ((q 2), .inl (cI, 10, .inl f3)), ((q 6), .inl (cI, 20, .inl f5)), ((q 7), .inl (cI, 20, .inl (fun _ => 0)))]) rfl (fun H locs hP hD hS => ?_)
  refine lv_iinc (v := 18) (lv' := [(2, .int 18), (0, .ref b), (1, .int 8)]) hx hb dX2_untell_50 hl (k := 0) rfl (by decide) (by decide) rfl (fun ls hl => ?_)
  refine lv_goto (tgt := 26) hx hb dX2_untell_53 (by decide) ?_
  refine lv_iload_n hx hb dX2_untell_26 rfl (lv_at hl 0 rfl) ?_
  refine lv_iconst (v := 2) hx hb dX2_untell_27 (by decide) ?_
  refine lv_iload_n hx hb dX2_untell_28 rfl (lv_at hl 2 rfl) ?_
  refine r_imul (v := 16) F dX2_untell_29 (by decide) ?_
  refine lv_iconst (v := 1) hx hb dX2_untell_30 (by decide) ?_
  refine r_iadd (v := 17) F dX2_untell_31 (by decide) ?_
  refine lv_icmp_gt (tgt := 56) hx hb dX2_untell_32 (by decide) (fun _ => ?_) (fun h9 => absurd (by decide) h9)
  exact ret (fun _ => 0, (fun k => [f1, f2, f3, f5].getD k (fun _ => 0))) _ _ _ _ _ _ trivial (bw_subP (isC := [0, 1, 2, 3, 4, 5]) hP rfl) (hD.sub [0, 1, 2, 3, 4, 5] (by decide) rfl) hS (Nat.le_of_ble_eq_true rfl) (Nat.le_of_ble_eq_true rfl) dX2_untell_56
abbrev rm_X2_untell_9 : Room := { frames := 0, cells := 0, slots := 0, locals := 0 }
set_option maxRecDepth 100000 in
set_option maxHeartbeats 4000000 in
theorem c_X2_untell_9 {l : Launch} {E : (Nat → Prop) → State → Prop} (hO : bw_Ok E) {G : va_G} {cI cB cJ cN cW : ClassId} (b : Nat) (q : Nat → Nat) (Lx : Int32) (f : Nat → Nat → Int32) : bw_Cv (S := bw_U) l yX2_untell (bw_ws (Cond.code yX2_untell cX2_untell 3 none)) rm_X2_untell_9 E G (bw_kt cI cB cJ cN cW) [.ref b, .int 9] [(b, .inr (2, [.int Lx, .ref (q 0), .ref (q 1), .ref (q 2), .ref (q 3), .ref (q 4), .ref (q 5), .ref (q 6), .ref (q 7)])), ((q 0), .inl (cI, 10, .inl (f 0))), ((q 1), .inl (cI, 10, .inl (f 1))), ((q 2), .inl (cI, 10, .inl (f 2))), ((q 6), .inl (cI, 20, .inl (f 3))), ((q 7), .inl (cI, 20, .inl (fun _ => 0)))] (fun _ => True) (fun u => [(b, .inr (2, [.int Lx, .ref (q 0), .ref (q 1), .ref (q 2), .ref (q 3), .ref (q 4), .ref (q 5), .ref (q 6), .ref (q 7)])), ((q 0), .inl (cI, 10, .inl (u.2 0))), ((q 1), .inl (cI, 10, .inl (u.2 1))), ((q 2), .inl (cI, 10, .inl (u.2 2))), ((q 6), .inl (cI, 20, .inl (u.2 3))), ((q 7), .inl (cI, 20, .inl (fun _ => 0)))]) := by
  refine bw_Cv.of (cc := cX2_untell) (maxL := 3) (by decide) rfl (Nat.le_of_ble_eq_true rfl) ?_
  intro p e s m below meth c A Q hx hb hml hts hown hin hK hA hS hP hD hE ret ls hl
  have F : CallFix p m c cX2_untell 3 s ([.ref b, .int 9] : List Value).toArray bw_T RX2 := ⟨hx, hb, hml, hown, fun w h => hts w (List.mem_cons_of_mem _ h)⟩
  have hl : lv_has ls 3 [(0, .ref b), (1, .int 9)] := hl
  refine lv_aload_n hx hb dX2_untell_0 rfl (lv_at hl 0 rfl) ?_
  refine r_get F hK hP 0 1 rfl rfl in_X2 (by decide) k_147 rfl dX2_untell_1 ?_
  refine lv_iload_n hx hb dX2_untell_4 rfl (lv_at hl 1 rfl) ?_
  refine lv_iconst (v := (-1)) hx hb dX2_untell_5 (by decide) ?_
  refine r_iastX F hK hP hD hS 1 0 rfl rfl (bw_vin (by decide)) dX2_untell_6 (w1 := fun f1 => [(b, .inr (2, [.int Lx, .ref (q 0), .ref (q 1), .ref (q 2), .ref (q 3), .ref (q 4), .ref (q 5), .ref (q 6), .ref (q 7)])), ((q 0), .inl (cI, 10, .inl f1)), ((q 1), .inl (cI, 10, .inl (f 1))), ((q 2), .inl (cI, 10, .inl (f 2))), ((q 6), .inl (cI, 20, .inl (f 3))), ((q 7), .inl (cI, 20, .inl (fun _ => 0)))]) (fun _ => rfl) (fun f1 H locs hP hD hS => ?_)
  refine lv_aload_n hx hb dX2_untell_7 rfl (lv_at hl 0 rfl) ?_
  refine r_get F hK hP 0 2 rfl rfl in_X2 (by decide) k_150 rfl dX2_untell_8 ?_
  refine lv_iload_n hx hb dX2_untell_11 rfl (lv_at hl 1 rfl) ?_
  refine lv_bipush (v := (-2)) hx hb dX2_untell_12 (by decide) ?_
  refine r_iastX F hK hP hD hS 2 0 rfl rfl (bw_vin (by decide)) dX2_untell_14 (w1 := fun f2 => [(b, .inr (2, [.int Lx, .ref (q 0), .ref (q 1), .ref (q 2), .ref (q 3), .ref (q 4), .ref (q 5), .ref (q 6), .ref (q 7)])), ((q 0), .inl (cI, 10, .inl f1)), ((q 1), .inl (cI, 10, .inl f2)), ((q 2), .inl (cI, 10, .inl (f 2))), ((q 6), .inl (cI, 20, .inl (f 3))), ((q 7), .inl (cI, 20, .inl (fun _ => 0)))]) (fun _ => rfl) (fun f2 H locs hP hD hS => ?_)
  refine lv_aload_n hx hb dX2_untell_15 rfl (lv_at hl 0 rfl) ?_
  refine r_get F hK hP 0 3 rfl rfl in_X2 (by decide) k_153 rfl dX2_untell_16 ?_
  refine lv_iload_n hx hb dX2_untell_19 rfl (lv_at hl 1 rfl) ?_
  refine lv_iconst (v := 0) hx hb dX2_untell_20 (by decide) ?_
  refine r_iastX F hK hP hD hS 3 0 rfl rfl (bw_vin (by decide)) dX2_untell_21 (w1 := fun f3 => [(b, .inr (2, [.int Lx, .ref (q 0), .ref (q 1), .ref (q 2), .ref (q 3), .ref (q 4), .ref (q 5), .ref (q 6), .ref (q 7)])), ((q 0), .inl (cI, 10, .inl f1)), ((q 1), .inl (cI, 10, .inl f2)), ((q 2), .inl (cI, 10, .inl f3)), ((q 6), .inl (cI, 20, .inl (f 3))), ((q 7), .inl (cI, 20, .inl (fun _ => 0)))]) (fun _ => rfl) (fun f3 H locs hP hD hS => ?_)
  refine lv_iconst (v := 2) hx hb dX2_untell_22 (by decide) ?_
  refine lv_iload_n hx hb dX2_untell_23 rfl (lv_at hl 1 rfl) ?_
  refine r_imul (v := 18) F dX2_untell_24 (by decide) ?_
  refine lv_istore_n (lv' := [(2, .int 18), (0, .ref b), (1, .int 9)]) hx hb dX2_untell_25 rfl hl (by decide) rfl (fun ls hl => ?_)
  refine lv_iload_n hx hb dX2_untell_26 rfl (lv_at hl 0 rfl) ?_
  refine lv_iconst (v := 2) hx hb dX2_untell_27 (by decide) ?_
  refine lv_iload_n hx hb dX2_untell_28 rfl (lv_at hl 2 rfl) ?_
  refine r_imul (v := 18) F dX2_untell_29 (by decide) ?_
  refine lv_iconst (v := 1) hx hb dX2_untell_30 (by decide) ?_
  refine r_iadd (v := 19) F dX2_untell_31 (by decide) ?_
  refine lv_icmp_gt (tgt := 56) hx hb dX2_untell_32 (by decide) (fun h9 => absurd h9 (by decide)) (fun _ => ?_)
  refine lv_aload_n hx hb dX2_untell_35 rfl (lv_at hl 1 rfl) ?_
  refine r_get F hK hP 0 7 rfl rfl in_X2 (by decide) k_165 rfl dX2_untell_36 ?_
  refine lv_iload_n hx hb dX2_untell_39 rfl (lv_at hl 0 rfl) ?_
  refine lv_bipush (v := (-2)) hx hb dX2_untell_40 (by decide) ?_
  refine r_iastX F hK hP hD hS 4 0 rfl rfl (bw_vin (by decide)) dX2_untell_42 (w1 := fun f4 => [(b, .inr (2, [.int Lx, .ref (q 0), .ref (q 1), .ref (q 2), .ref (q 3), .ref (q 4), .ref (q 5), .ref (q 6), .ref (q 7)])), ((q 0), .inl (cI, 10, .inl f1)), ((q 1), .inl (cI, 10, .inl f2)), ((q 2), .inl (cI, 10, .inl f3)), ((q 6), .inl (cI, 20, .inl f4)), ((q 7), .inl (cI, 20, .inl (fun _ => 0)))]) (fun _ => rfl) (fun f4 H locs hP hD hS => ?_)
  refine lv_aload_n hx hb dX2_untell_43 rfl (lv_at hl 1 rfl) ?_
  refine r_get F hK hP 0 8 rfl rfl in_X2 (by decide) k_169 rfl dX2_untell_44 ?_
  refine lv_iload_n hx hb dX2_untell_47 rfl (lv_at hl 0 rfl) ?_
  refine lv_iconst (v := 0) hx hb dX2_untell_48 (by decide) ?_
  refine r_iast F hK hP hD hS 5 0 rfl rfl (bw_vin (by decide)) dX2_untell_49 bw_upd0 (w1 := [(b, .inr (2, [.int Lx, .ref (q 0), .ref (q 1), .ref (q 2), .ref (q 3), .ref (q 4), .ref (q 5), .ref (q 6), .ref (q 7)])), ((q 0), .inl (cI, 10, .inl f1)), ((q 1), .inl (cI, 10, .inl f2)), ((q 2), .inl (cI, 10, .inl f3)), ((q 6), .inl (cI, 20, .inl f4)), ((q 7), .inl (cI, 20, .inl (fun _ => 0)))]) rfl (fun H locs hP hD hS => ?_)
  refine lv_iinc (v := 19) (lv' := [(2, .int 19), (0, .ref b), (1, .int 9)]) hx hb dX2_untell_50 hl (k := 0) rfl (by decide) (by decide) rfl (fun ls hl => ?_)
  refine lv_goto (tgt := 26) hx hb dX2_untell_53 (by decide) ?_
  refine lv_iload_n hx hb dX2_untell_26 rfl (lv_at hl 0 rfl) ?_
  refine lv_iconst (v := 2) hx hb dX2_untell_27 (by decide) ?_
  refine lv_iload_n hx hb dX2_untell_28 rfl (lv_at hl 2 rfl) ?_
  refine r_imul (v := 18) F dX2_untell_29 (by decide) ?_
  refine lv_iconst (v := 1) hx hb dX2_untell_30 (by decide) ?_
  refine r_iadd (v := 19) F dX2_untell_31 (by decide) ?_
  refine lv_icmp_gt (tgt := 56) hx hb dX2_untell_32 (by decide) (fun h9 => absurd h9 (by decide)) (fun _ => ?_)
  refine lv_aload_n hx hb dX2_untell_35 rfl (lv_at hl 1 rfl) ?_
  refine r_get F hK hP 0 7 rfl rfl in_X2 (by decide) k_165 rfl dX2_untell_36 ?_
  refine lv_iload_n hx hb dX2_untell_39 rfl (lv_at hl 0 rfl) ?_
  refine lv_bipush (v := (-2)) hx hb dX2_untell_40 (by decide) ?_
  refine r_iastX F hK hP hD hS 4 0 rfl rfl (bw_vin (by decide)) dX2_untell_42 (w1 := fun f5 => [(b, .inr (2, [.int Lx, .ref (q 0), .ref (q 1), .ref (q 2), .ref (q 3), .ref (q 4), .ref (q 5), .ref (q 6), .ref (q 7)])), ((q 0), .inl (cI, 10, .inl f1)), ((q 1), .inl (cI, 10, .inl f2)), ((q 2), .inl (cI, 10, .inl f3)), ((q 6), .inl (cI, 20, .inl f5)), ((q 7), .inl (cI, 20, .inl (fun _ => 0)))]) (fun _ => rfl) (fun f5 H locs hP hD hS => ?_)
  refine lv_aload_n hx hb dX2_untell_43 rfl (lv_at hl 1 rfl) ?_
  refine r_get F hK hP 0 8 rfl rfl in_X2 (by decide) k_169 rfl dX2_untell_44 ?_
  refine lv_iload_n hx hb dX2_untell_47 rfl (lv_at hl 0 rfl) ?_
  refine lv_iconst (v := 0) hx hb dX2_untell_48 (by decide) ?_
  refine r_iast F hK hP hD hS 5 0 rfl rfl (bw_vin (by decide)) dX2_untell_49 bw_upd0 (w1 := [(b, .inr (2, [.int Lx, .ref (q 0), .ref (q 1), .ref (q 2), .ref (q 3), .ref (q 4), .ref (q 5), .ref (q 6), .ref (q 7)])), ((q 0), .inl (cI, 10, .inl f1)), ((q 1), .inl (cI, 10, .inl f2)), ((q 2), .inl (cI, 10, .inl f3)), ((q 6), .inl (cI, 20, .inl f5)), ((q 7), .inl (cI, 20, .inl (fun _ => 0)))]) rfl (fun H locs hP hD hS => ?_)
  refine lv_iinc (v := 20) (lv' := [(2, .int 20), (0, .ref b), (1, .int 9)]) hx hb dX2_untell_50 hl (k := 0) rfl (by decide) (by decide) rfl (fun ls hl => ?_)
  refine lv_goto (tgt := 26) hx hb dX2_untell_53 (by decide) ?_
  refine lv_iload_n hx hb dX2_untell_26 rfl (lv_at hl 0 rfl) ?_
  refine lv_iconst (v := 2) hx hb dX2_untell_27 (by decide) ?_
  refine lv_iload_n hx hb dX2_untell_28 rfl (lv_at hl 2 rfl) ?_
  refine r_imul (v := 18) F dX2_untell_29 (by decide) ?_
  refine lv_iconst (v := 1) hx hb dX2_untell_30 (by decide) ?_
  refine r_iadd (v := 19) F dX2_untell_31 (by decide) ?_
  refine lv_icmp_gt (tgt := 56) hx hb dX2_untell_32 (by decide) (fun _ => ?_) (fun h9 => absurd (by decide) h9)
  exact ret (fun _ => 0, (fun k => [f1, f2, f3, f5].getD k (fun _ => 0))) _ _ _ _ _ _ trivial (bw_subP (isC := [0, 1, 2, 3, 4, 5]) hP rfl) (hD.sub [0, 1, 2, 3, 4, 5] (by decide) rfl) hS (Nat.le_of_ble_eq_true rfl) (Nat.le_of_ble_eq_true rfl) dX2_untell_56
end
section
theorem dX2_clear_0 : decode cX2_clear 0 = .ok (.aload_n 0, 1) := by decide +kernel
theorem dX2_clear_1 : decode cX2_clear 1 = .ok (.iconst 0, 1) := by decide +kernel
theorem dX2_clear_2 : decode cX2_clear 2 = .ok (.putfield 9, 3) := by decide +kernel
theorem k_144 : Cond.fieldLink RX2 9 "BurntWays$Net" "lines" "I" ∈ bw_T := bw_m 144 (by decide +kernel) rfl
theorem dX2_clear_5 : decode cX2_clear 5 = .ok (.iconst 0, 1) := by decide +kernel
theorem dX2_clear_6 : decode cX2_clear 6 = .ok (.istore_n 1, 1) := by decide +kernel
theorem dX2_clear_7 : decode cX2_clear 7 = .ok (.iload_n 1, 1) := by decide +kernel
theorem dX2_clear_8 : decode cX2_clear 8 = .ok (.bipush 10, 2) := by decide +kernel
theorem dX2_clear_10 : decode cX2_clear 10 = .ok (.if_icmp .ge 14, 3) := by decide +kernel
theorem dX2_clear_13 : decode cX2_clear 13 = .ok (.aload_n 0, 1) := by decide +kernel
theorem dX2_clear_14 : decode cX2_clear 14 = .ok (.iload_n 1, 1) := by decide +kernel
theorem dX2_clear_15 : decode cX2_clear 15 = .ok (.invokevirtual 43, 3) := by decide +kernel
theorem k_140 : Cond.methodLink RX2 43 yX2_untell ∈ bw_T := bw_m 140 (by decide +kernel) rfl
theorem kv_X2_untell : bw_KV RX2 yX2_untell (Cond.code yX2_untell cX2_untell 3 none) := ⟨bw_m 142 (by decide +kernel) rfl, bw_m 0 (by decide +kernel) rfl, bw_m 96 (by decide +kernel) rfl, bw_m 143 (by decide +kernel) rfl⟩
theorem dX2_clear_18 : decode cX2_clear 18 = .ok (.iinc 1 1, 3) := by decide +kernel
theorem dX2_clear_21 : decode cX2_clear 21 = .ok (.goto (-14), 3) := by decide +kernel
theorem dX2_clear_24 : decode cX2_clear 24 = .ok (.return_, 1) := by decide +kernel
abbrev rm_X2_clear : Room := { frames := 1, cells := 0, slots := 0, locals := 22 }
set_option maxRecDepth 100000 in
set_option maxHeartbeats 4000000 in
theorem c_X2_clear {l : Launch} {E : (Nat → Prop) → State → Prop} (hO : bw_Ok E) {G : va_G} {cI cB cJ cN cW : ClassId} (b : Nat) (q : Nat → Nat) (Lx : Int32) (f : Nat → Nat → Int32) : bw_Cv (S := bw_U) l yX2_clear (bw_ws (Cond.code yX2_clear cX2_clear 2 none)) rm_X2_clear E G (bw_kt cI cB cJ cN cW) [.ref b] [(b, .inr (2, [.int Lx, .ref (q 0), .ref (q 1), .ref (q 2), .ref (q 3), .ref (q 4), .ref (q 5), .ref (q 6), .ref (q 7)])), ((q 0), .inl (cI, 10, .inl (f 0))), ((q 1), .inl (cI, 10, .inl (f 1))), ((q 2), .inl (cI, 10, .inl (f 2))), ((q 6), .inl (cI, 20, .inl (f 3))), ((q 7), .inl (cI, 20, .inl (fun _ => 0)))] (fun _ => True) (fun u => [(b, .inr (2, [.int 0, .ref (q 0), .ref (q 1), .ref (q 2), .ref (q 3), .ref (q 4), .ref (q 5), .ref (q 6), .ref (q 7)])), ((q 0), .inl (cI, 10, .inl (u.2 0))), ((q 1), .inl (cI, 10, .inl (u.2 1))), ((q 2), .inl (cI, 10, .inl (u.2 2))), ((q 6), .inl (cI, 20, .inl (u.2 3))), ((q 7), .inl (cI, 20, .inl (fun _ => 0)))]) := by
  refine bw_Cv.of (cc := cX2_clear) (maxL := 2) (by decide) rfl (Nat.le_of_ble_eq_true rfl) ?_
  intro p e s m below meth c A Q hx hb hml hts hown hin hK hA hS hP hD hE ret ls hl
  have F : CallFix p m c cX2_clear 2 s ([.ref b] : List Value).toArray bw_T RX2 := ⟨hx, hb, hml, hown, fun w h => hts w (List.mem_cons_of_mem _ h)⟩
  have hl : lv_has ls 2 [(0, .ref b)] := hl
  refine lv_aload_n hx hb dX2_clear_0 rfl (lv_at hl 0 rfl) ?_
  refine lv_iconst (v := 0) hx hb dX2_clear_1 (by decide) ?_
  refine r_put F hK hP hD hS 0 0 rfl rfl in_X2 tyX2 tyX2_ok nmX2 (by decide) k_144 rfl rfl rfl (Nat.le_of_ble_eq_true rfl) dX2_clear_2 (w1 := [(b, .inr (2, [.int 0, .ref (q 0), .ref (q 1), .ref (q 2), .ref (q 3), .ref (q 4), .ref (q 5), .ref (q 6), .ref (q 7)])), ((q 0), .inl (cI, 10, .inl (f 0))), ((q 1), .inl (cI, 10, .inl (f 1))), ((q 2), .inl (cI, 10, .inl (f 2))), ((q 6), .inl (cI, 20, .inl (f 3))), ((q 7), .inl (cI, 20, .inl (fun _ => 0)))]) rfl (fun H locs hP hD hS => ?_)
  refine lv_iconst (v := 0) hx hb dX2_clear_5 (by decide) ?_
  refine lv_istore_n (lv' := [(1, .int 0), (0, .ref b)]) hx hb dX2_clear_6 rfl hl (by decide) rfl (fun ls hl => ?_)
  refine lv_iload_n hx hb dX2_clear_7 rfl (lv_at hl 0 rfl) ?_
  refine lv_bipush (v := 10) hx hb dX2_clear_8 (by decide) ?_
  refine lv_icmp_ge (tgt := 24) hx hb dX2_clear_10 (by decide) (fun h9 => absurd h9 (by decide)) (fun _ => ?_)
  refine lv_aload_n hx hb dX2_clear_13 rfl (lv_at hl 1 rfl) ?_
  refine lv_iload_n hx hb dX2_clear_14 rfl (lv_at hl 0 rfl) ?_
  refine r_callVv (As := [.int 0]) (rest := []) (wr := []) F hK hP hD hS hA hO hE (c_X2_untell_0 hO b q 0 f) k_140 kv_X2_untell 1 rfl (by decide +kernel) ⟨Nat.le_of_ble_eq_true rfl, Nat.le_of_ble_eq_true rfl⟩ [0, 1, 2, 3, 4, 5] [] rfl rfl (by decide) (by decide) (by decide) 0 2 rfl rfl rfl hl.1 rfl (Nat.le_of_ble_eq_true rfl) dX2_clear_15 ⟨Nat.le_of_ble_eq_true rfl, Nat.le_of_ble_eq_true rfl⟩ (w1 := fun u1 => [(b, .inr (2, [.int 0, .ref (q 0), .ref (q 1), .ref (q 2), .ref (q 3), .ref (q 4), .ref (q 5), .ref (q 6), .ref (q 7)])), ((q 0), .inl (cI, 10, .inl (u1.2 0))), ((q 1), .inl (cI, 10, .inl (u1.2 1))), ((q 2), .inl (cI, 10, .inl (u1.2 2))), ((q 6), .inl (cI, 20, .inl (u1.2 3))), ((q 7), .inl (cI, 20, .inl (fun _ => 0)))]) (fun _ => rfl) (fun  u1 H locs hp hP hD hS => ?_)
  refine lv_iinc (v := 1) (lv' := [(1, .int 1), (0, .ref b)]) hx hb dX2_clear_18 hl (k := 0) rfl (by decide) (by decide) rfl (fun ls hl => ?_)
  refine lv_goto (tgt := 7) hx hb dX2_clear_21 (by decide) ?_
  refine lv_iload_n hx hb dX2_clear_7 rfl (lv_at hl 0 rfl) ?_
  refine lv_bipush (v := 10) hx hb dX2_clear_8 (by decide) ?_
  refine lv_icmp_ge (tgt := 24) hx hb dX2_clear_10 (by decide) (fun h9 => absurd h9 (by decide)) (fun _ => ?_)
  refine lv_aload_n hx hb dX2_clear_13 rfl (lv_at hl 1 rfl) ?_
  refine lv_iload_n hx hb dX2_clear_14 rfl (lv_at hl 0 rfl) ?_
  refine r_callVv (As := [.int 1]) (rest := []) (wr := []) F hK hP hD hS hA hO hE (c_X2_untell_1 hO b q 0 u1.2) k_140 kv_X2_untell 1 rfl (by decide +kernel) ⟨Nat.le_of_ble_eq_true rfl, Nat.le_of_ble_eq_true rfl⟩ [0, 1, 2, 3, 4, 5] [] rfl rfl (by decide) (by decide) (by decide) 0 2 rfl rfl rfl hl.1 rfl (Nat.le_of_ble_eq_true rfl) dX2_clear_15 ⟨Nat.le_of_ble_eq_true rfl, Nat.le_of_ble_eq_true rfl⟩ (w1 := fun u2 => [(b, .inr (2, [.int 0, .ref (q 0), .ref (q 1), .ref (q 2), .ref (q 3), .ref (q 4), .ref (q 5), .ref (q 6), .ref (q 7)])), ((q 0), .inl (cI, 10, .inl (u2.2 0))), ((q 1), .inl (cI, 10, .inl (u2.2 1))), ((q 2), .inl (cI, 10, .inl (u2.2 2))), ((q 6), .inl (cI, 20, .inl (u2.2 3))), ((q 7), .inl (cI, 20, .inl (fun _ => 0)))]) (fun _ => rfl) (fun  u2 H locs hp hP hD hS => ?_)
  refine lv_iinc (v := 2) (lv' := [(1, .int 2), (0, .ref b)]) hx hb dX2_clear_18 hl (k := 0) rfl (by decide) (by decide) rfl (fun ls hl => ?_)
  refine lv_goto (tgt := 7) hx hb dX2_clear_21 (by decide) ?_
  refine lv_iload_n hx hb dX2_clear_7 rfl (lv_at hl 0 rfl) ?_
  refine lv_bipush (v := 10) hx hb dX2_clear_8 (by decide) ?_
  refine lv_icmp_ge (tgt := 24) hx hb dX2_clear_10 (by decide) (fun h9 => absurd h9 (by decide)) (fun _ => ?_)
  refine lv_aload_n hx hb dX2_clear_13 rfl (lv_at hl 1 rfl) ?_
  refine lv_iload_n hx hb dX2_clear_14 rfl (lv_at hl 0 rfl) ?_
  refine r_callVv (As := [.int 2]) (rest := []) (wr := []) F hK hP hD hS hA hO hE (c_X2_untell_2 hO b q 0 u2.2) k_140 kv_X2_untell 1 rfl (by decide +kernel) ⟨Nat.le_of_ble_eq_true rfl, Nat.le_of_ble_eq_true rfl⟩ [0, 1, 2, 3, 4, 5] [] rfl rfl (by decide) (by decide) (by decide) 0 2 rfl rfl rfl hl.1 rfl (Nat.le_of_ble_eq_true rfl) dX2_clear_15 ⟨Nat.le_of_ble_eq_true rfl, Nat.le_of_ble_eq_true rfl⟩ (w1 := fun u3 => [(b, .inr (2, [.int 0, .ref (q 0), .ref (q 1), .ref (q 2), .ref (q 3), .ref (q 4), .ref (q 5), .ref (q 6), .ref (q 7)])), ((q 0), .inl (cI, 10, .inl (u3.2 0))), ((q 1), .inl (cI, 10, .inl (u3.2 1))), ((q 2), .inl (cI, 10, .inl (u3.2 2))), ((q 6), .inl (cI, 20, .inl (u3.2 3))), ((q 7), .inl (cI, 20, .inl (fun _ => 0)))]) (fun _ => rfl) (fun  u3 H locs hp hP hD hS => ?_)
  refine lv_iinc (v := 3) (lv' := [(1, .int 3), (0, .ref b)]) hx hb dX2_clear_18 hl (k := 0) rfl (by decide) (by decide) rfl (fun ls hl => ?_)
  refine lv_goto (tgt := 7) hx hb dX2_clear_21 (by decide) ?_
  refine lv_iload_n hx hb dX2_clear_7 rfl (lv_at hl 0 rfl) ?_
  refine lv_bipush (v := 10) hx hb dX2_clear_8 (by decide) ?_
  refine lv_icmp_ge (tgt := 24) hx hb dX2_clear_10 (by decide) (fun h9 => absurd h9 (by decide)) (fun _ => ?_)
  refine lv_aload_n hx hb dX2_clear_13 rfl (lv_at hl 1 rfl) ?_
  refine lv_iload_n hx hb dX2_clear_14 rfl (lv_at hl 0 rfl) ?_
  refine r_callVv (As := [.int 3]) (rest := []) (wr := []) F hK hP hD hS hA hO hE (c_X2_untell_3 hO b q 0 u3.2) k_140 kv_X2_untell 1 rfl (by decide +kernel) ⟨Nat.le_of_ble_eq_true rfl, Nat.le_of_ble_eq_true rfl⟩ [0, 1, 2, 3, 4, 5] [] rfl rfl (by decide) (by decide) (by decide) 0 2 rfl rfl rfl hl.1 rfl (Nat.le_of_ble_eq_true rfl) dX2_clear_15 ⟨Nat.le_of_ble_eq_true rfl, Nat.le_of_ble_eq_true rfl⟩ (w1 := fun u4 => [(b, .inr (2, [.int 0, .ref (q 0), .ref (q 1), .ref (q 2), .ref (q 3), .ref (q 4), .ref (q 5), .ref (q 6), .ref (q 7)])), ((q 0), .inl (cI, 10, .inl (u4.2 0))), ((q 1), .inl (cI, 10, .inl (u4.2 1))), ((q 2), .inl (cI, 10, .inl (u4.2 2))), ((q 6), .inl (cI, 20, .inl (u4.2 3))), ((q 7), .inl (cI, 20, .inl (fun _ => 0)))]) (fun _ => rfl) (fun  u4 H locs hp hP hD hS => ?_)
  refine lv_iinc (v := 4) (lv' := [(1, .int 4), (0, .ref b)]) hx hb dX2_clear_18 hl (k := 0) rfl (by decide) (by decide) rfl (fun ls hl => ?_)
  refine lv_goto (tgt := 7) hx hb dX2_clear_21 (by decide) ?_
  refine lv_iload_n hx hb dX2_clear_7 rfl (lv_at hl 0 rfl) ?_
  refine lv_bipush (v := 10) hx hb dX2_clear_8 (by decide) ?_
  refine lv_icmp_ge (tgt := 24) hx hb dX2_clear_10 (by decide) (fun h9 => absurd h9 (by decide)) (fun _ => ?_)
  refine lv_aload_n hx hb dX2_clear_13 rfl (lv_at hl 1 rfl) ?_
  refine lv_iload_n hx hb dX2_clear_14 rfl (lv_at hl 0 rfl) ?_
  refine r_callVv (As := [.int 4]) (rest := []) (wr := []) F hK hP hD hS hA hO hE (c_X2_untell_4 hO b q 0 u4.2) k_140 kv_X2_untell 1 rfl (by decide +kernel) ⟨Nat.le_of_ble_eq_true rfl, Nat.le_of_ble_eq_true rfl⟩ [0, 1, 2, 3, 4, 5] [] rfl rfl (by decide) (by decide) (by decide) 0 2 rfl rfl rfl hl.1 rfl (Nat.le_of_ble_eq_true rfl) dX2_clear_15 ⟨Nat.le_of_ble_eq_true rfl, Nat.le_of_ble_eq_true rfl⟩ (w1 := fun u5 => [(b, .inr (2, [.int 0, .ref (q 0), .ref (q 1), .ref (q 2), .ref (q 3), .ref (q 4), .ref (q 5), .ref (q 6), .ref (q 7)])), ((q 0), .inl (cI, 10, .inl (u5.2 0))), ((q 1), .inl (cI, 10, .inl (u5.2 1))), ((q 2), .inl (cI, 10, .inl (u5.2 2))), ((q 6), .inl (cI, 20, .inl (u5.2 3))), ((q 7), .inl (cI, 20, .inl (fun _ => 0)))]) (fun _ => rfl) (fun  u5 H locs hp hP hD hS => ?_)
  refine lv_iinc (v := 5) (lv' := [(1, .int 5), (0, .ref b)]) hx hb dX2_clear_18 hl (k := 0) rfl (by decide) (by decide) rfl (fun ls hl => ?_)
  refine lv_goto (tgt := 7) hx hb dX2_clear_21 (by decide) ?_
  refine lv_iload_n hx hb dX2_clear_7 rfl (lv_at hl 0 rfl) ?_
  refine lv_bipush (v := 10) hx hb dX2_clear_8 (by decide) ?_
  refine lv_icmp_ge (tgt := 24) hx hb dX2_clear_10 (by decide) (fun h9 => absurd h9 (by decide)) (fun _ => ?_)
  refine lv_aload_n hx hb dX2_clear_13 rfl (lv_at hl 1 rfl) ?_
  refine lv_iload_n hx hb dX2_clear_14 rfl (lv_at hl 0 rfl) ?_
  refine r_callVv (As := [.int 5]) (rest := []) (wr := []) F hK hP hD hS hA hO hE (c_X2_untell_5 hO b q 0 u5.2) k_140 kv_X2_untell 1 rfl (by decide +kernel) ⟨Nat.le_of_ble_eq_true rfl, Nat.le_of_ble_eq_true rfl⟩ [0, 1, 2, 3, 4, 5] [] rfl rfl (by decide) (by decide) (by decide) 0 2 rfl rfl rfl hl.1 rfl (Nat.le_of_ble_eq_true rfl) dX2_clear_15 ⟨Nat.le_of_ble_eq_true rfl, Nat.le_of_ble_eq_true rfl⟩ (w1 := fun u6 => [(b, .inr (2, [.int 0, .ref (q 0), .ref (q 1), .ref (q 2), .ref (q 3), .ref (q 4), .ref (q 5), .ref (q 6), .ref (q 7)])), ((q 0), .inl (cI, 10, .inl (u6.2 0))), ((q 1), .inl (cI, 10, .inl (u6.2 1))), ((q 2), .inl (cI, 10, .inl (u6.2 2))), ((q 6), .inl (cI, 20, .inl (u6.2 3))), ((q 7), .inl (cI, 20, .inl (fun _ => 0)))]) (fun _ => rfl) (fun  u6 H locs hp hP hD hS => ?_)
  refine lv_iinc (v := 6) (lv' := [(1, .int 6), (0, .ref b)]) hx hb dX2_clear_18 hl (k := 0) rfl (by decide) (by decide) rfl (fun ls hl => ?_)
  refine lv_goto (tgt := 7) hx hb dX2_clear_21 (by decide) ?_
  refine lv_iload_n hx hb dX2_clear_7 rfl (lv_at hl 0 rfl) ?_
  refine lv_bipush (v := 10) hx hb dX2_clear_8 (by decide) ?_
  refine lv_icmp_ge (tgt := 24) hx hb dX2_clear_10 (by decide) (fun h9 => absurd h9 (by decide)) (fun _ => ?_)
  refine lv_aload_n hx hb dX2_clear_13 rfl (lv_at hl 1 rfl) ?_
  refine lv_iload_n hx hb dX2_clear_14 rfl (lv_at hl 0 rfl) ?_
  refine r_callVv (As := [.int 6]) (rest := []) (wr := []) F hK hP hD hS hA hO hE (c_X2_untell_6 hO b q 0 u6.2) k_140 kv_X2_untell 1 rfl (by decide +kernel) ⟨Nat.le_of_ble_eq_true rfl, Nat.le_of_ble_eq_true rfl⟩ [0, 1, 2, 3, 4, 5] [] rfl rfl (by decide) (by decide) (by decide) 0 2 rfl rfl rfl hl.1 rfl (Nat.le_of_ble_eq_true rfl) dX2_clear_15 ⟨Nat.le_of_ble_eq_true rfl, Nat.le_of_ble_eq_true rfl⟩ (w1 := fun u7 => [(b, .inr (2, [.int 0, .ref (q 0), .ref (q 1), .ref (q 2), .ref (q 3), .ref (q 4), .ref (q 5), .ref (q 6), .ref (q 7)])), ((q 0), .inl (cI, 10, .inl (u7.2 0))), ((q 1), .inl (cI, 10, .inl (u7.2 1))), ((q 2), .inl (cI, 10, .inl (u7.2 2))), ((q 6), .inl (cI, 20, .inl (u7.2 3))), ((q 7), .inl (cI, 20, .inl (fun _ => 0)))]) (fun _ => rfl) (fun  u7 H locs hp hP hD hS => ?_)
  refine lv_iinc (v := 7) (lv' := [(1, .int 7), (0, .ref b)]) hx hb dX2_clear_18 hl (k := 0) rfl (by decide) (by decide) rfl (fun ls hl => ?_)
  refine lv_goto (tgt := 7) hx hb dX2_clear_21 (by decide) ?_
  refine lv_iload_n hx hb dX2_clear_7 rfl (lv_at hl 0 rfl) ?_
  refine lv_bipush (v := 10) hx hb dX2_clear_8 (by decide) ?_
  refine lv_icmp_ge (tgt := 24) hx hb dX2_clear_10 (by decide) (fun h9 => absurd h9 (by decide)) (fun _ => ?_)
  refine lv_aload_n hx hb dX2_clear_13 rfl (lv_at hl 1 rfl) ?_
  refine lv_iload_n hx hb dX2_clear_14 rfl (lv_at hl 0 rfl) ?_
  refine r_callVv (As := [.int 7]) (rest := []) (wr := []) F hK hP hD hS hA hO hE (c_X2_untell_7 hO b q 0 u7.2) k_140 kv_X2_untell 1 rfl (by decide +kernel) ⟨Nat.le_of_ble_eq_true rfl, Nat.le_of_ble_eq_true rfl⟩ [0, 1, 2, 3, 4, 5] [] rfl rfl (by decide) (by decide) (by decide) 0 2 rfl rfl rfl hl.1 rfl (Nat.le_of_ble_eq_true rfl) dX2_clear_15 ⟨Nat.le_of_ble_eq_true rfl, Nat.le_of_ble_eq_true rfl⟩ (w1 := fun u8 => [(b, .inr (2, [.int 0, .ref (q 0), .ref (q 1), .ref (q 2), .ref (q 3), .ref (q 4), .ref (q 5), .ref (q 6), .ref (q 7)])), ((q 0), .inl (cI, 10, .inl (u8.2 0))), ((q 1), .inl (cI, 10, .inl (u8.2 1))), ((q 2), .inl (cI, 10, .inl (u8.2 2))), ((q 6), .inl (cI, 20, .inl (u8.2 3))), ((q 7), .inl (cI, 20, .inl (fun _ => 0)))]) (fun _ => rfl) (fun  u8 H locs hp hP hD hS => ?_)
  refine lv_iinc (v := 8) (lv' := [(1, .int 8), (0, .ref b)]) hx hb dX2_clear_18 hl (k := 0) rfl (by decide) (by decide) rfl (fun ls hl => ?_)
  refine lv_goto (tgt := 7) hx hb dX2_clear_21 (by decide) ?_
  refine lv_iload_n hx hb dX2_clear_7 rfl (lv_at hl 0 rfl) ?_
  refine lv_bipush (v := 10) hx hb dX2_clear_8 (by decide) ?_
  refine lv_icmp_ge (tgt := 24) hx hb dX2_clear_10 (by decide) (fun h9 => absurd h9 (by decide)) (fun _ => ?_)
  refine lv_aload_n hx hb dX2_clear_13 rfl (lv_at hl 1 rfl) ?_
  refine lv_iload_n hx hb dX2_clear_14 rfl (lv_at hl 0 rfl) ?_
  refine r_callVv (As := [.int 8]) (rest := []) (wr := []) F hK hP hD hS hA hO hE (c_X2_untell_8 hO b q 0 u8.2) k_140 kv_X2_untell 1 rfl (by decide +kernel) ⟨Nat.le_of_ble_eq_true rfl, Nat.le_of_ble_eq_true rfl⟩ [0, 1, 2, 3, 4, 5] [] rfl rfl (by decide) (by decide) (by decide) 0 2 rfl rfl rfl hl.1 rfl (Nat.le_of_ble_eq_true rfl) dX2_clear_15 ⟨Nat.le_of_ble_eq_true rfl, Nat.le_of_ble_eq_true rfl⟩ (w1 := fun u9 => [(b, .inr (2, [.int 0, .ref (q 0), .ref (q 1), .ref (q 2), .ref (q 3), .ref (q 4), .ref (q 5), .ref (q 6), .ref (q 7)])), ((q 0), .inl (cI, 10, .inl (u9.2 0))), ((q 1), .inl (cI, 10, .inl (u9.2 1))), ((q 2), .inl (cI, 10, .inl (u9.2 2))), ((q 6), .inl (cI, 20, .inl (u9.2 3))), ((q 7), .inl (cI, 20, .inl (fun _ => 0)))]) (fun _ => rfl) (fun  u9 H locs hp hP hD hS => ?_)
  refine lv_iinc (v := 9) (lv' := [(1, .int 9), (0, .ref b)]) hx hb dX2_clear_18 hl (k := 0) rfl (by decide) (by decide) rfl (fun ls hl => ?_)
  refine lv_goto (tgt := 7) hx hb dX2_clear_21 (by decide) ?_
  refine lv_iload_n hx hb dX2_clear_7 rfl (lv_at hl 0 rfl) ?_
  refine lv_bipush (v := 10) hx hb dX2_clear_8 (by decide) ?_
  refine lv_icmp_ge (tgt := 24) hx hb dX2_clear_10 (by decide) (fun h9 => absurd h9 (by decide)) (fun _ => ?_)
  refine lv_aload_n hx hb dX2_clear_13 rfl (lv_at hl 1 rfl) ?_
  refine lv_iload_n hx hb dX2_clear_14 rfl (lv_at hl 0 rfl) ?_
  refine r_callVv (As := [.int 9]) (rest := []) (wr := []) F hK hP hD hS hA hO hE (c_X2_untell_9 hO b q 0 u9.2) k_140 kv_X2_untell 1 rfl (by decide +kernel) ⟨Nat.le_of_ble_eq_true rfl, Nat.le_of_ble_eq_true rfl⟩ [0, 1, 2, 3, 4, 5] [] rfl rfl (by decide) (by decide) (by decide) 0 2 rfl rfl rfl hl.1 rfl (Nat.le_of_ble_eq_true rfl) dX2_clear_15 ⟨Nat.le_of_ble_eq_true rfl, Nat.le_of_ble_eq_true rfl⟩ (w1 := fun u10 => [(b, .inr (2, [.int 0, .ref (q 0), .ref (q 1), .ref (q 2), .ref (q 3), .ref (q 4), .ref (q 5), .ref (q 6), .ref (q 7)])), ((q 0), .inl (cI, 10, .inl (u10.2 0))), ((q 1), .inl (cI, 10, .inl (u10.2 1))), ((q 2), .inl (cI, 10, .inl (u10.2 2))), ((q 6), .inl (cI, 20, .inl (u10.2 3))), ((q 7), .inl (cI, 20, .inl (fun _ => 0)))]) (fun _ => rfl) (fun  u10 H locs hp hP hD hS => ?_)
  refine lv_iinc (v := 10) (lv' := [(1, .int 10), (0, .ref b)]) hx hb dX2_clear_18 hl (k := 0) rfl (by decide) (by decide) rfl (fun ls hl => ?_)
  refine lv_goto (tgt := 7) hx hb dX2_clear_21 (by decide) ?_
  refine lv_iload_n hx hb dX2_clear_7 rfl (lv_at hl 0 rfl) ?_
  refine lv_bipush (v := 10) hx hb dX2_clear_8 (by decide) ?_
  refine lv_icmp_ge (tgt := 24) hx hb dX2_clear_10 (by decide) (fun _ => ?_) (fun h9 => absurd (by decide) h9)
  exact ret (fun _ => 0, u10.2) _ _ _ _ _ _ trivial (bw_subP (isC := [0, 1, 2, 3, 4, 5]) hP rfl) (hD.sub [0, 1, 2, 3, 4, 5] (by decide) rfl) hS (Nat.le_of_ble_eq_true rfl) (Nat.le_of_ble_eq_true rfl) dX2_clear_24
end
section
theorem dX2_init_0 : decode cX2_init 0 = .ok (.aload_n 0, 1) := by decide +kernel
theorem dX2_init_1 : decode cX2_init 1 = .ok (.invokespecial 3, 3) := by decide +kernel
theorem k_oi : Cond.instanceMethod Lib.objectInit ∈ bw_T := bw_m 122 (by decide +kernel) rfl
theorem k_oc : Cond.code Lib.objectInit ⟨#[0xb1]⟩ 1 none ∈ bw_T := bw_m 123 (by decide +kernel) rfl
theorem k_135 : Cond.methodLink RX2 3 Lib.objectInit ∈ bw_T := bw_m 135 (by decide +kernel) rfl
theorem dX2_init_4 : decode cX2_init 4 = .ok (.aload_n 0, 1) := by decide +kernel
theorem dX2_init_5 : decode cX2_init 5 = .ok (.iconst 0, 1) := by decide +kernel
theorem dX2_init_6 : decode cX2_init 6 = .ok (.putfield 9, 3) := by decide +kernel
theorem dX2_init_9 : decode cX2_init 9 = .ok (.aload_n 0, 1) := by decide +kernel
theorem dX2_init_10 : decode cX2_init 10 = .ok (.bipush 10, 2) := by decide +kernel
theorem dX2_init_12 : decode cX2_init 12 = .ok (.newarray .int, 2) := by decide +kernel
theorem k_194 : Cond.arrayClass .int ∈ bw_T := bw_m 194 (by decide +kernel) rfl
theorem dX2_init_14 : decode cX2_init 14 = .ok (.putfield 15, 3) := by decide +kernel
theorem dX2_init_17 : decode cX2_init 17 = .ok (.aload_n 0, 1) := by decide +kernel
theorem dX2_init_18 : decode cX2_init 18 = .ok (.bipush 10, 2) := by decide +kernel
theorem dX2_init_20 : decode cX2_init 20 = .ok (.newarray .int, 2) := by decide +kernel
theorem dX2_init_22 : decode cX2_init 22 = .ok (.putfield 19, 3) := by decide +kernel
theorem dX2_init_25 : decode cX2_init 25 = .ok (.aload_n 0, 1) := by decide +kernel
theorem dX2_init_26 : decode cX2_init 26 = .ok (.bipush 10, 2) := by decide +kernel
theorem dX2_init_28 : decode cX2_init 28 = .ok (.newarray .int, 2) := by decide +kernel
theorem dX2_init_30 : decode cX2_init 30 = .ok (.putfield 22, 3) := by decide +kernel
theorem dX2_init_33 : decode cX2_init 33 = .ok (.aload_n 0, 1) := by decide +kernel
theorem dX2_init_34 : decode cX2_init 34 = .ok (.bipush 40, 2) := by decide +kernel
theorem dX2_init_36 : decode cX2_init 36 = .ok (.newarray .int, 2) := by decide +kernel
theorem dX2_init_38 : decode cX2_init 38 = .ok (.putfield 25, 3) := by decide +kernel
theorem k_156 : Cond.fieldLink RX2 25 "BurntWays$Net" "actKinds" "[I" ∈ bw_T := bw_m 156 (by decide +kernel) rfl
theorem dX2_init_41 : decode cX2_init 41 = .ok (.aload_n 0, 1) := by decide +kernel
theorem dX2_init_42 : decode cX2_init 42 = .ok (.bipush 40, 2) := by decide +kernel
theorem dX2_init_44 : decode cX2_init 44 = .ok (.newarray .int, 2) := by decide +kernel
theorem dX2_init_46 : decode cX2_init 46 = .ok (.putfield 28, 3) := by decide +kernel
theorem k_159 : Cond.fieldLink RX2 28 "BurntWays$Net" "actTargets" "[I" ∈ bw_T := bw_m 159 (by decide +kernel) rfl
theorem dX2_init_49 : decode cX2_init 49 = .ok (.aload_n 0, 1) := by decide +kernel
theorem dX2_init_50 : decode cX2_init 50 = .ok (.bipush 40, 2) := by decide +kernel
theorem dX2_init_52 : decode cX2_init 52 = .ok (.newarray .int, 2) := by decide +kernel
theorem dX2_init_54 : decode cX2_init 54 = .ok (.putfield 31, 3) := by decide +kernel
theorem k_162 : Cond.fieldLink RX2 31 "BurntWays$Net" "actValues" "[I" ∈ bw_T := bw_m 162 (by decide +kernel) rfl
theorem dX2_init_57 : decode cX2_init 57 = .ok (.aload_n 0, 1) := by decide +kernel
theorem dX2_init_58 : decode cX2_init 58 = .ok (.bipush 20, 2) := by decide +kernel
theorem dX2_init_60 : decode cX2_init 60 = .ok (.newarray .int, 2) := by decide +kernel
theorem dX2_init_62 : decode cX2_init 62 = .ok (.putfield 34, 3) := by decide +kernel
theorem dX2_init_65 : decode cX2_init 65 = .ok (.aload_n 0, 1) := by decide +kernel
theorem dX2_init_66 : decode cX2_init 66 = .ok (.bipush 20, 2) := by decide +kernel
theorem dX2_init_68 : decode cX2_init 68 = .ok (.newarray .int, 2) := by decide +kernel
theorem dX2_init_70 : decode cX2_init 70 = .ok (.putfield 37, 3) := by decide +kernel
theorem dX2_init_73 : decode cX2_init 73 = .ok (.aload_n 0, 1) := by decide +kernel
theorem dX2_init_74 : decode cX2_init 74 = .ok (.invokevirtual 40, 3) := by decide +kernel
theorem k_136 : Cond.methodLink RX2 40 yX2_clear ∈ bw_T := bw_m 136 (by decide +kernel) rfl
theorem kv_X2_clear : bw_KV RX2 yX2_clear (Cond.code yX2_clear cX2_clear 2 none) := ⟨bw_m 137 (by decide +kernel) rfl, bw_m 138 (by decide +kernel) rfl, bw_m 96 (by decide +kernel) rfl, bw_m 139 (by decide +kernel) rfl⟩
theorem dX2_init_77 : decode cX2_init 77 = .ok (.return_, 1) := by decide +kernel
abbrev rm_X2_init : Room := { frames := 2, cells := 8, slots := 190, locals := 43 }
set_option maxRecDepth 100000 in
set_option maxHeartbeats 4000000 in
theorem c_X2_init {l : Launch} {E : (Nat → Prop) → State → Prop} (hO : bw_Ok E) {G : va_G} {cI cB cJ cN cW : ClassId} (b : Nat) : bw_Cv (S := bw_U) l yX2_init (bw_ws (Cond.code yX2_init cX2_init 1 none)) rm_X2_init E G (bw_kt cI cB cJ cN cW) [.ref b] [(b, .inr (2, [.int 0, .null, .null, .null, .null, .null, .null, .null, .null]))] (fun _ => True) (fun u => [(b, .inr (2, [.int 0, .ref (u.1 0), .ref (u.1 1), .ref (u.1 2), .ref (u.1 3), .ref (u.1 4), .ref (u.1 5), .ref (u.1 6), .ref (u.1 7)])), ((u.1 0), .inl (cI, 10, .inl (u.2 0))), ((u.1 1), .inl (cI, 10, .inl (u.2 1))), ((u.1 2), .inl (cI, 10, .inl (u.2 2))), ((u.1 6), .inl (cI, 20, .inl (u.2 3))), ((u.1 7), .inl (cI, 20, .inl (fun _ => 0)))]) := by
  refine bw_Cv.of (cc := cX2_init) (maxL := 1) (by decide) rfl (Nat.le_of_ble_eq_true rfl) ?_
  intro p e s m below meth c A Q hx hb hml hts hown hin hK hA hS hP hD hE ret ls hl
  have F : CallFix p m c cX2_init 1 s ([.ref b] : List Value).toArray bw_T RX2 := ⟨hx, hb, hml, hown, fun w h => hts w (List.mem_cons_of_mem _ h)⟩
  have hl : lv_has ls 1 [(0, .ref b)] := hl
  refine lv_aload_n hx hb dX2_init_0 rfl (lv_at hl 0 rfl) ?_
  refine r_objInit F k_135 k_oi k_oc hl.1 dX2_init_1 (Nat.le_of_ble_eq_true rfl) (Nat.le_of_ble_eq_true rfl) ?_
  refine lv_aload_n hx hb dX2_init_4 rfl (lv_at hl 0 rfl) ?_
  refine lv_iconst (v := 0) hx hb dX2_init_5 (by decide) ?_
  refine r_put F hK hP hD hS 0 0 rfl rfl in_X2 tyX2 tyX2_ok nmX2 (by decide) k_144 rfl rfl rfl (Nat.le_of_ble_eq_true rfl) dX2_init_6 (w1 := [(b, .inr (2, [.int 0, .null, .null, .null, .null, .null, .null, .null, .null]))]) rfl (fun H locs hP hD hS => ?_)
  refine lv_aload_n hx hb dX2_init_9 rfl (lv_at hl 0 rfl) ?_
  refine lv_bipush (v := 10) hx hb dX2_init_10 (by decide) ?_
  refine r_newa (atype := .int) (ty := .int) F rfl k_194 hK hP hD hS hA 0 rfl 10 (10, .inl (fun _ => 0)) (bw_cI 10) (by decide) (by decide) (bw_by (k := 4) rfl (by omega)) (Nat.le_of_ble_eq_true rfl) (Nat.le_of_ble_eq_true rfl) dX2_init_12 (w1 := fun q1 => [(b, .inr (2, [.int 0, .null, .null, .null, .null, .null, .null, .null, .null])), (q1, .inl (cI, 10, .inl (fun _ => 0)))]) (fun _ => rfl) (fun q1 H hP hD hS => ?_)
  refine r_putF F hK hP hD hS 0 1 rfl rfl in_X2 tyX2 tyX2_ok nmX2 (by decide) k_147 rfl hin rfl rfl rfl (Nat.le_of_ble_eq_true rfl) dX2_init_14 (w1 := [(b, .inr (2, [.int 0, .ref q1, .null, .null, .null, .null, .null, .null, .null])), (q1, .inl (cI, 10, .inl (fun _ => 0)))]) rfl (fun H locs hP hD hS => ?_)
  refine lv_aload_n hx hb dX2_init_17 rfl (lv_at hl 0 rfl) ?_
  refine lv_bipush (v := 10) hx hb dX2_init_18 (by decide) ?_
  refine r_newa (atype := .int) (ty := .int) F rfl k_194 hK hP hD hS hA 0 rfl 10 (10, .inl (fun _ => 0)) (bw_cI 10) (by decide) (by decide) (bw_by (k := 4) rfl (by omega)) (Nat.le_of_ble_eq_true rfl) (Nat.le_of_ble_eq_true rfl) dX2_init_20 (w1 := fun q2 => [(b, .inr (2, [.int 0, .ref q1, .null, .null, .null, .null, .null, .null, .null])), (q1, .inl (cI, 10, .inl (fun _ => 0))), (q2, .inl (cI, 10, .inl (fun _ => 0)))]) (fun _ => rfl) (fun q2 H hP hD hS => ?_)
  refine r_putF F hK hP hD hS 0 2 rfl rfl in_X2 tyX2 tyX2_ok nmX2 (by decide) k_150 rfl hin rfl rfl rfl (Nat.le_of_ble_eq_true rfl) dX2_init_22 (w1 := [(b, .inr (2, [.int 0, .ref q1, .ref q2, .null, .null, .null, .null, .null, .null])), (q1, .inl (cI, 10, .inl (fun _ => 0))), (q2, .inl (cI, 10, .inl (fun _ => 0)))]) rfl (fun H locs hP hD hS => ?_)
  refine lv_aload_n hx hb dX2_init_25 rfl (lv_at hl 0 rfl) ?_
  refine lv_bipush (v := 10) hx hb dX2_init_26 (by decide) ?_
  refine r_newa (atype := .int) (ty := .int) F rfl k_194 hK hP hD hS hA 0 rfl 10 (10, .inl (fun _ => 0)) (bw_cI 10) (by decide) (by decide) (bw_by (k := 4) rfl (by omega)) (Nat.le_of_ble_eq_true rfl) (Nat.le_of_ble_eq_true rfl) dX2_init_28 (w1 := fun q3 => [(b, .inr (2, [.int 0, .ref q1, .ref q2, .null, .null, .null, .null, .null, .null])), (q1, .inl (cI, 10, .inl (fun _ => 0))), (q2, .inl (cI, 10, .inl (fun _ => 0))), (q3, .inl (cI, 10, .inl (fun _ => 0)))]) (fun _ => rfl) (fun q3 H hP hD hS => ?_)
  refine r_putF F hK hP hD hS 0 3 rfl rfl in_X2 tyX2 tyX2_ok nmX2 (by decide) k_153 rfl hin rfl rfl rfl (Nat.le_of_ble_eq_true rfl) dX2_init_30 (w1 := [(b, .inr (2, [.int 0, .ref q1, .ref q2, .ref q3, .null, .null, .null, .null, .null])), (q1, .inl (cI, 10, .inl (fun _ => 0))), (q2, .inl (cI, 10, .inl (fun _ => 0))), (q3, .inl (cI, 10, .inl (fun _ => 0)))]) rfl (fun H locs hP hD hS => ?_)
  refine lv_aload_n hx hb dX2_init_33 rfl (lv_at hl 0 rfl) ?_
  refine lv_bipush (v := 40) hx hb dX2_init_34 (by decide) ?_
  refine r_newa (atype := .int) (ty := .int) F rfl k_194 hK hP hD hS hA 0 rfl 40 (40, .inl (fun _ => 0)) (bw_cI 40) (by decide) (by decide) (bw_by (k := 4) rfl (by omega)) (Nat.le_of_ble_eq_true rfl) (Nat.le_of_ble_eq_true rfl) dX2_init_36 (w1 := fun q4 => [(b, .inr (2, [.int 0, .ref q1, .ref q2, .ref q3, .null, .null, .null, .null, .null])), (q1, .inl (cI, 10, .inl (fun _ => 0))), (q2, .inl (cI, 10, .inl (fun _ => 0))), (q3, .inl (cI, 10, .inl (fun _ => 0))), (q4, .inl (cI, 40, .inl (fun _ => 0)))]) (fun _ => rfl) (fun q4 H hP hD hS => ?_)
  refine r_putF F hK hP hD hS 0 4 rfl rfl in_X2 tyX2 tyX2_ok nmX2 (by decide) k_156 rfl hin rfl rfl rfl (Nat.le_of_ble_eq_true rfl) dX2_init_38 (w1 := [(b, .inr (2, [.int 0, .ref q1, .ref q2, .ref q3, .ref q4, .null, .null, .null, .null])), (q1, .inl (cI, 10, .inl (fun _ => 0))), (q2, .inl (cI, 10, .inl (fun _ => 0))), (q3, .inl (cI, 10, .inl (fun _ => 0))), (q4, .inl (cI, 40, .inl (fun _ => 0)))]) rfl (fun H locs hP hD hS => ?_)
  refine lv_aload_n hx hb dX2_init_41 rfl (lv_at hl 0 rfl) ?_
  refine lv_bipush (v := 40) hx hb dX2_init_42 (by decide) ?_
  refine r_newa (atype := .int) (ty := .int) F rfl k_194 hK hP hD hS hA 0 rfl 40 (40, .inl (fun _ => 0)) (bw_cI 40) (by decide) (by decide) (bw_by (k := 4) rfl (by omega)) (Nat.le_of_ble_eq_true rfl) (Nat.le_of_ble_eq_true rfl) dX2_init_44 (w1 := fun q5 => [(b, .inr (2, [.int 0, .ref q1, .ref q2, .ref q3, .ref q4, .null, .null, .null, .null])), (q1, .inl (cI, 10, .inl (fun _ => 0))), (q2, .inl (cI, 10, .inl (fun _ => 0))), (q3, .inl (cI, 10, .inl (fun _ => 0))), (q4, .inl (cI, 40, .inl (fun _ => 0))), (q5, .inl (cI, 40, .inl (fun _ => 0)))]) (fun _ => rfl) (fun q5 H hP hD hS => ?_)
  refine r_putF F hK hP hD hS 0 5 rfl rfl in_X2 tyX2 tyX2_ok nmX2 (by decide) k_159 rfl hin rfl rfl rfl (Nat.le_of_ble_eq_true rfl) dX2_init_46 (w1 := [(b, .inr (2, [.int 0, .ref q1, .ref q2, .ref q3, .ref q4, .ref q5, .null, .null, .null])), (q1, .inl (cI, 10, .inl (fun _ => 0))), (q2, .inl (cI, 10, .inl (fun _ => 0))), (q3, .inl (cI, 10, .inl (fun _ => 0))), (q4, .inl (cI, 40, .inl (fun _ => 0))), (q5, .inl (cI, 40, .inl (fun _ => 0)))]) rfl (fun H locs hP hD hS => ?_)
  refine lv_aload_n hx hb dX2_init_49 rfl (lv_at hl 0 rfl) ?_
  refine lv_bipush (v := 40) hx hb dX2_init_50 (by decide) ?_
  refine r_newa (atype := .int) (ty := .int) F rfl k_194 hK hP hD hS hA 0 rfl 40 (40, .inl (fun _ => 0)) (bw_cI 40) (by decide) (by decide) (bw_by (k := 4) rfl (by omega)) (Nat.le_of_ble_eq_true rfl) (Nat.le_of_ble_eq_true rfl) dX2_init_52 (w1 := fun q6 => [(b, .inr (2, [.int 0, .ref q1, .ref q2, .ref q3, .ref q4, .ref q5, .null, .null, .null])), (q1, .inl (cI, 10, .inl (fun _ => 0))), (q2, .inl (cI, 10, .inl (fun _ => 0))), (q3, .inl (cI, 10, .inl (fun _ => 0))), (q4, .inl (cI, 40, .inl (fun _ => 0))), (q5, .inl (cI, 40, .inl (fun _ => 0))), (q6, .inl (cI, 40, .inl (fun _ => 0)))]) (fun _ => rfl) (fun q6 H hP hD hS => ?_)
  refine r_putF F hK hP hD hS 0 6 rfl rfl in_X2 tyX2 tyX2_ok nmX2 (by decide) k_162 rfl hin rfl rfl rfl (Nat.le_of_ble_eq_true rfl) dX2_init_54 (w1 := [(b, .inr (2, [.int 0, .ref q1, .ref q2, .ref q3, .ref q4, .ref q5, .ref q6, .null, .null])), (q1, .inl (cI, 10, .inl (fun _ => 0))), (q2, .inl (cI, 10, .inl (fun _ => 0))), (q3, .inl (cI, 10, .inl (fun _ => 0))), (q4, .inl (cI, 40, .inl (fun _ => 0))), (q5, .inl (cI, 40, .inl (fun _ => 0))), (q6, .inl (cI, 40, .inl (fun _ => 0)))]) rfl (fun H locs hP hD hS => ?_)
  refine lv_aload_n hx hb dX2_init_57 rfl (lv_at hl 0 rfl) ?_
  refine lv_bipush (v := 20) hx hb dX2_init_58 (by decide) ?_
  refine r_newa (atype := .int) (ty := .int) F rfl k_194 hK hP hD hS hA 0 rfl 20 (20, .inl (fun _ => 0)) (bw_cI 20) (by decide) (by decide) (bw_by (k := 4) rfl (by omega)) (Nat.le_of_ble_eq_true rfl) (Nat.le_of_ble_eq_true rfl) dX2_init_60 (w1 := fun q7 => [(b, .inr (2, [.int 0, .ref q1, .ref q2, .ref q3, .ref q4, .ref q5, .ref q6, .null, .null])), (q1, .inl (cI, 10, .inl (fun _ => 0))), (q2, .inl (cI, 10, .inl (fun _ => 0))), (q3, .inl (cI, 10, .inl (fun _ => 0))), (q4, .inl (cI, 40, .inl (fun _ => 0))), (q5, .inl (cI, 40, .inl (fun _ => 0))), (q6, .inl (cI, 40, .inl (fun _ => 0))), (q7, .inl (cI, 20, .inl (fun _ => 0)))]) (fun _ => rfl) (fun q7 H hP hD hS => ?_)
  refine r_putF F hK hP hD hS 0 7 rfl rfl in_X2 tyX2 tyX2_ok nmX2 (by decide) k_165 rfl hin rfl rfl rfl (Nat.le_of_ble_eq_true rfl) dX2_init_62 (w1 := [(b, .inr (2, [.int 0, .ref q1, .ref q2, .ref q3, .ref q4, .ref q5, .ref q6, .ref q7, .null])), (q1, .inl (cI, 10, .inl (fun _ => 0))), (q2, .inl (cI, 10, .inl (fun _ => 0))), (q3, .inl (cI, 10, .inl (fun _ => 0))), (q4, .inl (cI, 40, .inl (fun _ => 0))), (q5, .inl (cI, 40, .inl (fun _ => 0))), (q6, .inl (cI, 40, .inl (fun _ => 0))), (q7, .inl (cI, 20, .inl (fun _ => 0)))]) rfl (fun H locs hP hD hS => ?_)
  refine lv_aload_n hx hb dX2_init_65 rfl (lv_at hl 0 rfl) ?_
  refine lv_bipush (v := 20) hx hb dX2_init_66 (by decide) ?_
  refine r_newa (atype := .int) (ty := .int) F rfl k_194 hK hP hD hS hA 0 rfl 20 (20, .inl (fun _ => 0)) (bw_cI 20) (by decide) (by decide) (bw_by (k := 4) rfl (by omega)) (Nat.le_of_ble_eq_true rfl) (Nat.le_of_ble_eq_true rfl) dX2_init_68 (w1 := fun q8 => [(b, .inr (2, [.int 0, .ref q1, .ref q2, .ref q3, .ref q4, .ref q5, .ref q6, .ref q7, .null])), (q1, .inl (cI, 10, .inl (fun _ => 0))), (q2, .inl (cI, 10, .inl (fun _ => 0))), (q3, .inl (cI, 10, .inl (fun _ => 0))), (q4, .inl (cI, 40, .inl (fun _ => 0))), (q5, .inl (cI, 40, .inl (fun _ => 0))), (q6, .inl (cI, 40, .inl (fun _ => 0))), (q7, .inl (cI, 20, .inl (fun _ => 0))), (q8, .inl (cI, 20, .inl (fun _ => 0)))]) (fun _ => rfl) (fun q8 H hP hD hS => ?_)
  refine r_putF F hK hP hD hS 0 8 rfl rfl in_X2 tyX2 tyX2_ok nmX2 (by decide) k_169 rfl hin rfl rfl rfl (Nat.le_of_ble_eq_true rfl) dX2_init_70 (w1 := [(b, .inr (2, [.int 0, .ref q1, .ref q2, .ref q3, .ref q4, .ref q5, .ref q6, .ref q7, .ref q8])), (q1, .inl (cI, 10, .inl (fun _ => 0))), (q2, .inl (cI, 10, .inl (fun _ => 0))), (q3, .inl (cI, 10, .inl (fun _ => 0))), (q4, .inl (cI, 40, .inl (fun _ => 0))), (q5, .inl (cI, 40, .inl (fun _ => 0))), (q6, .inl (cI, 40, .inl (fun _ => 0))), (q7, .inl (cI, 20, .inl (fun _ => 0))), (q8, .inl (cI, 20, .inl (fun _ => 0)))]) rfl (fun H locs hP hD hS => ?_)
  refine lv_aload_n hx hb dX2_init_73 rfl (lv_at hl 0 rfl) ?_
  refine r_callVv (As := []) (rest := []) (wr := [(q4, .inl (cI, 40, .inl (fun _ => 0))), (q5, .inl (cI, 40, .inl (fun _ => 0))), (q6, .inl (cI, 40, .inl (fun _ => 0)))]) F hK hP hD hS hA hO hE (c_X2_clear hO b (fun k => [q1, q2, q3, q4, q5, q6, q7, q8].getD k 0) 0 (fun k => [(fun _ => 0), (fun _ => 0), (fun _ => 0), (fun _ => 0)].getD k (fun _ => 0))) k_136 kv_X2_clear 0 rfl (by decide +kernel) ⟨Nat.le_of_ble_eq_true rfl, Nat.le_of_ble_eq_true rfl⟩ [0, 1, 2, 3, 7, 8] [4, 5, 6] rfl rfl (by decide) (by decide) (by decide) 0 2 rfl rfl rfl hl.1 rfl (Nat.le_of_ble_eq_true rfl) dX2_init_74 ⟨Nat.le_of_ble_eq_true rfl, Nat.le_of_ble_eq_true rfl⟩ (w1 := fun u9 => [(q4, .inl (cI, 40, .inl (fun _ => 0))), (q5, .inl (cI, 40, .inl (fun _ => 0))), (q6, .inl (cI, 40, .inl (fun _ => 0))), (b, .inr (2, [.int 0, .ref q1, .ref q2, .ref q3, .ref q4, .ref q5, .ref q6, .ref q7, .ref q8])), (q1, .inl (cI, 10, .inl (u9.2 0))), (q2, .inl (cI, 10, .inl (u9.2 1))), (q3, .inl (cI, 10, .inl (u9.2 2))), (q7, .inl (cI, 20, .inl (u9.2 3))), (q8, .inl (cI, 20, .inl (fun _ => 0)))]) (fun _ => rfl) (fun  u9 H locs hp hP hD hS => ?_)
  exact ret ((fun k => [q1, q2, q3, q4, q5, q6, q7, q8].getD k 0), (fun k => [(u9.2 0), (u9.2 1), (u9.2 2), (u9.2 3)].getD k (fun _ => 0))) _ _ _ _ _ _ trivial (bw_subP (isC := [3, 4, 5, 6, 7, 8]) hP rfl) (hD.sub [3, 4, 5, 6, 7, 8] (by decide) rfl) hS (Nat.le_of_ble_eq_true rfl) (Nat.le_of_ble_eq_true rfl) dX2_init_77
theorem dX7_init_0 : decode cX7_init 0 = .ok (.aload_n 0, 1) := by decide +kernel
theorem dX7_init_1 : decode cX7_init 1 = .ok (.invokespecial 3, 3) := by decide +kernel
theorem k_200 : Cond.methodLink RX7 3 Lib.objectInit ∈ bw_T := bw_m 200 (by decide +kernel) rfl
theorem dX7_init_4 : decode cX7_init 4 = .ok (.aload_n 0, 1) := by decide +kernel
theorem dX7_init_5 : decode cX7_init 5 = .ok (.iconst 0, 1) := by decide +kernel
theorem dX7_init_6 : decode cX7_init 6 = .ok (.putfield 9, 3) := by decide +kernel
theorem k_201 : Cond.fieldLink RX7 9 "BurntWays$Wants" "count" "I" ∈ bw_T := bw_m 201 (by decide +kernel) rfl
theorem in_X7 : ∀ w ∈ wsX70, w ∈ bw_T := bw_ms _ [206, 208] (by decide +kernel) (by decide +kernel)
theorem dX7_init_9 : decode cX7_init 9 = .ok (.aload_n 0, 1) := by decide +kernel
theorem dX7_init_10 : decode cX7_init 10 = .ok (.bipush 30, 2) := by decide +kernel
theorem dX7_init_12 : decode cX7_init 12 = .ok (.newarray .int, 2) := by decide +kernel
theorem dX7_init_14 : decode cX7_init 14 = .ok (.putfield 15, 3) := by decide +kernel
theorem k_205 : Cond.fieldLink RX7 15 "BurntWays$Wants" "parts" "[I" ∈ bw_T := bw_m 205 (by decide +kernel) rfl
theorem dX7_init_17 : decode cX7_init 17 = .ok (.return_, 1) := by decide +kernel
abbrev rm_X7_init : Room := { frames := 1, cells := 1, slots := 30, locals := 12 }
set_option maxRecDepth 100000 in
set_option maxHeartbeats 4000000 in
theorem c_X7_init {l : Launch} {E : (Nat → Prop) → State → Prop} (hO : bw_Ok E) {G : va_G} {cI cB cJ cN cW : ClassId} (b : Nat) : bw_Cv (S := bw_U) l yX7_init (bw_ws (Cond.code yX7_init cX7_init 1 none)) rm_X7_init E G (bw_kt cI cB cJ cN cW) [.ref b] [(b, .inr (7, [.int 0, .null]))] (fun _ => True) (fun u => [(b, .inr (7, [.int 0, .ref (u.1 0)]))]) := by
  refine bw_Cv.of (cc := cX7_init) (maxL := 1) (by decide) rfl (Nat.le_of_ble_eq_true rfl) ?_
  intro p e s m below meth c A Q hx hb hml hts hown hin hK hA hS hP hD hE ret ls hl
  have F : CallFix p m c cX7_init 1 s ([.ref b] : List Value).toArray bw_T RX7 := ⟨hx, hb, hml, hown, fun w h => hts w (List.mem_cons_of_mem _ h)⟩
  have hl : lv_has ls 1 [(0, .ref b)] := hl
  refine lv_aload_n hx hb dX7_init_0 rfl (lv_at hl 0 rfl) ?_
  refine r_objInit F k_200 k_oi k_oc hl.1 dX7_init_1 (Nat.le_of_ble_eq_true rfl) (Nat.le_of_ble_eq_true rfl) ?_
  refine lv_aload_n hx hb dX7_init_4 rfl (lv_at hl 0 rfl) ?_
  refine lv_iconst (v := 0) hx hb dX7_init_5 (by decide) ?_
  refine r_put F hK hP hD hS 0 0 rfl rfl in_X7 tyX7 tyX7_ok nmX7 (by decide) k_201 rfl rfl rfl (Nat.le_of_ble_eq_true rfl) dX7_init_6 (w1 := [(b, .inr (7, [.int 0, .null]))]) rfl (fun H locs hP hD hS => ?_)
  refine lv_aload_n hx hb dX7_init_9 rfl (lv_at hl 0 rfl) ?_
  refine lv_bipush (v := 30) hx hb dX7_init_10 (by decide) ?_
  refine r_newa (atype := .int) (ty := .int) F rfl k_194 hK hP hD hS hA 0 rfl 30 (30, .inl (fun _ => 0)) (bw_cI 30) (by decide) (by decide) (bw_by (k := 4) rfl (by omega)) (Nat.le_of_ble_eq_true rfl) (Nat.le_of_ble_eq_true rfl) dX7_init_12 (w1 := fun q1 => [(b, .inr (7, [.int 0, .null])), (q1, .inl (cI, 30, .inl (fun _ => 0)))]) (fun _ => rfl) (fun q1 H hP hD hS => ?_)
  refine r_putF F hK hP hD hS 0 1 rfl rfl in_X7 tyX7 tyX7_ok nmX7 (by decide) k_205 rfl hin rfl rfl rfl (Nat.le_of_ble_eq_true rfl) dX7_init_14 (w1 := [(b, .inr (7, [.int 0, .ref q1])), (q1, .inl (cI, 30, .inl (fun _ => 0)))]) rfl (fun H locs hP hD hS => ?_)
  exact ret ((fun k => [q1].getD k 0), fun _ _ => 0) _ _ _ _ _ _ trivial (bw_subP (isC := [0]) hP rfl) (hD.sub [0] (by decide) rfl) hS (Nat.le_of_ble_eq_true rfl) (Nat.le_of_ble_eq_true rfl) dX7_init_17
theorem dX6_init_0 : decode cX6_init 0 = .ok (.aload_n 0, 1) := by decide +kernel
theorem dX6_init_1 : decode cX6_init 1 = .ok (.invokespecial 3, 3) := by decide +kernel
theorem k_319 : Cond.methodLink RX6 3 Lib.objectInit ∈ bw_T := bw_m 319 (by decide +kernel) rfl
theorem dX6_init_4 : decode cX6_init 4 = .ok (.aload_n 0, 1) := by decide +kernel
theorem dX6_init_5 : decode cX6_init 5 = .ok (.iconst 0, 1) := by decide +kernel
theorem dX6_init_6 : decode cX6_init 6 = .ok (.putfield 9, 3) := by decide +kernel
theorem k_320 : Cond.fieldLink RX6 9 "BurntWays$Walk" "at" "I" ∈ bw_T := bw_m 320 (by decide +kernel) rfl
theorem in_X6 : ∀ w ∈ wsX60, w ∈ bw_T := bw_ms _ [341, 343, 345, 347, 349, 351, 353, 355, 357, 359] (by decide +kernel) (by decide +kernel)
theorem dX6_init_9 : decode cX6_init 9 = .ok (.aload_n 0, 1) := by decide +kernel
theorem dX6_init_10 : decode cX6_init 10 = .ok (.iconst 0, 1) := by decide +kernel
theorem dX6_init_11 : decode cX6_init 11 = .ok (.putfield 15, 3) := by decide +kernel
theorem k_322 : Cond.fieldLink RX6 15 "BurntWays$Walk" "stepCount" "I" ∈ bw_T := bw_m 322 (by decide +kernel) rfl
theorem dX6_init_14 : decode cX6_init 14 = .ok (.aload_n 0, 1) := by decide +kernel
theorem dX6_init_15 : decode cX6_init 15 = .ok (.iconst 0, 1) := by decide +kernel
theorem dX6_init_16 : decode cX6_init 16 = .ok (.putfield 18, 3) := by decide +kernel
theorem k_325 : Cond.fieldLink RX6 18 "BurntWays$Walk" "ended" "I" ∈ bw_T := bw_m 325 (by decide +kernel) rfl
theorem dX6_init_19 : decode cX6_init 19 = .ok (.aload_n 0, 1) := by decide +kernel
theorem dX6_init_20 : decode cX6_init 20 = .ok (.iconst 0, 1) := by decide +kernel
theorem dX6_init_21 : decode cX6_init 21 = .ok (.putfield 21, 3) := by decide +kernel
theorem k_328 : Cond.fieldLink RX6 21 "BurntWays$Walk" "takenInAll" "I" ∈ bw_T := bw_m 328 (by decide +kernel) rfl
theorem dX6_init_24 : decode cX6_init 24 = .ok (.aload_n 0, 1) := by decide +kernel
theorem dX6_init_25 : decode cX6_init 25 = .ok (.iconst 0, 1) := by decide +kernel
theorem dX6_init_26 : decode cX6_init 26 = .ok (.putfield 24, 3) := by decide +kernel
theorem k_330 : Cond.fieldLink RX6 24 "BurntWays$Walk" "seenLines" "I" ∈ bw_T := bw_m 330 (by decide +kernel) rfl
theorem dX6_init_29 : decode cX6_init 29 = .ok (.aload_n 0, 1) := by decide +kernel
theorem dX6_init_30 : decode cX6_init 30 = .ok (.iconst 4, 1) := by decide +kernel
theorem dX6_init_31 : decode cX6_init 31 = .ok (.newarray .int, 2) := by decide +kernel
theorem dX6_init_33 : decode cX6_init 33 = .ok (.putfield 27, 3) := by decide +kernel
theorem k_332 : Cond.fieldLink RX6 27 "BurntWays$Walk" "counters" "[I" ∈ bw_T := bw_m 332 (by decide +kernel) rfl
theorem dX6_init_36 : decode cX6_init 36 = .ok (.aload_n 0, 1) := by decide +kernel
theorem dX6_init_37 : decode cX6_init 37 = .ok (.bipush 20, 2) := by decide +kernel
theorem dX6_init_39 : decode cX6_init 39 = .ok (.newarray .int, 2) := by decide +kernel
theorem dX6_init_41 : decode cX6_init 41 = .ok (.putfield 31, 3) := by decide +kernel
theorem k_334 : Cond.fieldLink RX6 31 "BurntWays$Walk" "taken" "[I" ∈ bw_T := bw_m 334 (by decide +kernel) rfl
theorem dX6_init_44 : decode cX6_init 44 = .ok (.aload_n 0, 1) := by decide +kernel
theorem dX6_init_45 : decode cX6_init 45 = .ok (.bipush 20, 2) := by decide +kernel
theorem dX6_init_47 : decode cX6_init 47 = .ok (.newarray .int, 2) := by decide +kernel
theorem dX6_init_49 : decode cX6_init 49 = .ok (.putfield 34, 3) := by decide +kernel
theorem k_336 : Cond.fieldLink RX6 34 "BurntWays$Walk" "everTaken" "[I" ∈ bw_T := bw_m 336 (by decide +kernel) rfl
theorem dX6_init_52 : decode cX6_init 52 = .ok (.aload_n 0, 1) := by decide +kernel
theorem dX6_init_53 : decode cX6_init 53 = .ok (.lconst 0, 1) := by decide +kernel
theorem dX6_init_54 : decode cX6_init 54 = .ok (.putfield 37, 3) := by decide +kernel
theorem k_338 : Cond.fieldLink RX6 37 "BurntWays$Walk" "given" "J" ∈ bw_T := bw_m 338 (by decide +kernel) rfl
theorem dX6_init_57 : decode cX6_init 57 = .ok (.aload_n 0, 1) := by decide +kernel
theorem dX6_init_58 : decode cX6_init 58 = .ok (.bipush 100, 2) := by decide +kernel
theorem dX6_init_60 : decode cX6_init 60 = .ok (.newarray .int, 2) := by decide +kernel
theorem dX6_init_62 : decode cX6_init 62 = .ok (.putfield 41, 3) := by decide +kernel
theorem k_339 : Cond.fieldLink RX6 41 "BurntWays$Walk" "linesBehind" "[I" ∈ bw_T := bw_m 339 (by decide +kernel) rfl
theorem dX6_init_65 : decode cX6_init 65 = .ok (.return_, 1) := by decide +kernel
abbrev rm_X6_init : Room := { frames := 1, cells := 4, slots := 144, locals := 12 }
set_option maxRecDepth 100000 in
set_option maxHeartbeats 4000000 in
theorem c_X6_init {l : Launch} {E : (Nat → Prop) → State → Prop} (hO : bw_Ok E) {G : va_G} {cI cB cJ cN cW : ClassId} (b : Nat) : bw_Cv (S := bw_U) l yX6_init (bw_ws (Cond.code yX6_init cX6_init 1 none)) rm_X6_init E G (bw_kt cI cB cJ cN cW) [.ref b] [(b, .inr (6, [.int 0, .int 0, .int 0, .int 0, .int 0, .null, .null, .null, .long 0, .null]))] (fun _ => True) (fun u => [(b, .inr (6, [.int 0, .int 0, .int 0, .int 0, .int 0, .ref (u.1 0), .ref (u.1 1), .ref (u.1 2), .long 0, .ref (u.1 3)]))]) := by
  refine bw_Cv.of (cc := cX6_init) (maxL := 1) (by decide) rfl (Nat.le_of_ble_eq_true rfl) ?_
  intro p e s m below meth c A Q hx hb hml hts hown hin hK hA hS hP hD hE ret ls hl
  have F : CallFix p m c cX6_init 1 s ([.ref b] : List Value).toArray bw_T RX6 := ⟨hx, hb, hml, hown, fun w h => hts w (List.mem_cons_of_mem _ h)⟩
  have hl : lv_has ls 1 [(0, .ref b)] := hl
  refine lv_aload_n hx hb dX6_init_0 rfl (lv_at hl 0 rfl) ?_
  refine r_objInit F k_319 k_oi k_oc hl.1 dX6_init_1 (Nat.le_of_ble_eq_true rfl) (Nat.le_of_ble_eq_true rfl) ?_
  refine lv_aload_n hx hb dX6_init_4 rfl (lv_at hl 0 rfl) ?_
  refine lv_iconst (v := 0) hx hb dX6_init_5 (by decide) ?_
  refine r_put F hK hP hD hS 0 0 rfl rfl in_X6 tyX6 tyX6_ok nmX6 (by decide) k_320 rfl rfl rfl (Nat.le_of_ble_eq_true rfl) dX6_init_6 (w1 := [(b, .inr (6, [.int 0, .int 0, .int 0, .int 0, .int 0, .null, .null, .null, .long 0, .null]))]) rfl (fun H locs hP hD hS => ?_)
  refine lv_aload_n hx hb dX6_init_9 rfl (lv_at hl 0 rfl) ?_
  refine lv_iconst (v := 0) hx hb dX6_init_10 (by decide) ?_
  refine r_put F hK hP hD hS 0 1 rfl rfl in_X6 tyX6 tyX6_ok nmX6 (by decide) k_322 rfl rfl rfl (Nat.le_of_ble_eq_true rfl) dX6_init_11 (w1 := [(b, .inr (6, [.int 0, .int 0, .int 0, .int 0, .int 0, .null, .null, .null, .long 0, .null]))]) rfl (fun H locs hP hD hS => ?_)
  refine lv_aload_n hx hb dX6_init_14 rfl (lv_at hl 0 rfl) ?_
  refine lv_iconst (v := 0) hx hb dX6_init_15 (by decide) ?_
  refine r_put F hK hP hD hS 0 2 rfl rfl in_X6 tyX6 tyX6_ok nmX6 (by decide) k_325 rfl rfl rfl (Nat.le_of_ble_eq_true rfl) dX6_init_16 (w1 := [(b, .inr (6, [.int 0, .int 0, .int 0, .int 0, .int 0, .null, .null, .null, .long 0, .null]))]) rfl (fun H locs hP hD hS => ?_)
  refine lv_aload_n hx hb dX6_init_19 rfl (lv_at hl 0 rfl) ?_
  refine lv_iconst (v := 0) hx hb dX6_init_20 (by decide) ?_
  refine r_put F hK hP hD hS 0 3 rfl rfl in_X6 tyX6 tyX6_ok nmX6 (by decide) k_328 rfl rfl rfl (Nat.le_of_ble_eq_true rfl) dX6_init_21 (w1 := [(b, .inr (6, [.int 0, .int 0, .int 0, .int 0, .int 0, .null, .null, .null, .long 0, .null]))]) rfl (fun H locs hP hD hS => ?_)
  refine lv_aload_n hx hb dX6_init_24 rfl (lv_at hl 0 rfl) ?_
  refine lv_iconst (v := 0) hx hb dX6_init_25 (by decide) ?_
  refine r_put F hK hP hD hS 0 4 rfl rfl in_X6 tyX6 tyX6_ok nmX6 (by decide) k_330 rfl rfl rfl (Nat.le_of_ble_eq_true rfl) dX6_init_26 (w1 := [(b, .inr (6, [.int 0, .int 0, .int 0, .int 0, .int 0, .null, .null, .null, .long 0, .null]))]) rfl (fun H locs hP hD hS => ?_)
  refine lv_aload_n hx hb dX6_init_29 rfl (lv_at hl 0 rfl) ?_
  refine lv_iconst (v := 4) hx hb dX6_init_30 (by decide) ?_
  refine r_newa (atype := .int) (ty := .int) F rfl k_194 hK hP hD hS hA 0 rfl 4 (4, .inl (fun _ => 0)) (bw_cI 4) (by decide) (by decide) (bw_by (k := 4) rfl (by omega)) (Nat.le_of_ble_eq_true rfl) (Nat.le_of_ble_eq_true rfl) dX6_init_31 (w1 := fun q1 => [(b, .inr (6, [.int 0, .int 0, .int 0, .int 0, .int 0, .null, .null, .null, .long 0, .null])), (q1, .inl (cI, 4, .inl (fun _ => 0)))]) (fun _ => rfl) (fun q1 H hP hD hS => ?_)
  refine r_putF F hK hP hD hS 0 5 rfl rfl in_X6 tyX6 tyX6_ok nmX6 (by decide) k_332 rfl hin rfl rfl rfl (Nat.le_of_ble_eq_true rfl) dX6_init_33 (w1 := [(b, .inr (6, [.int 0, .int 0, .int 0, .int 0, .int 0, .ref q1, .null, .null, .long 0, .null])), (q1, .inl (cI, 4, .inl (fun _ => 0)))]) rfl (fun H locs hP hD hS => ?_)
  refine lv_aload_n hx hb dX6_init_36 rfl (lv_at hl 0 rfl) ?_
  refine lv_bipush (v := 20) hx hb dX6_init_37 (by decide) ?_
  refine r_newa (atype := .int) (ty := .int) F rfl k_194 hK hP hD hS hA 0 rfl 20 (20, .inl (fun _ => 0)) (bw_cI 20) (by decide) (by decide) (bw_by (k := 4) rfl (by omega)) (Nat.le_of_ble_eq_true rfl) (Nat.le_of_ble_eq_true rfl) dX6_init_39 (w1 := fun q2 => [(b, .inr (6, [.int 0, .int 0, .int 0, .int 0, .int 0, .ref q1, .null, .null, .long 0, .null])), (q1, .inl (cI, 4, .inl (fun _ => 0))), (q2, .inl (cI, 20, .inl (fun _ => 0)))]) (fun _ => rfl) (fun q2 H hP hD hS => ?_)
  refine r_putF F hK hP hD hS 0 6 rfl rfl in_X6 tyX6 tyX6_ok nmX6 (by decide) k_334 rfl hin rfl rfl rfl (Nat.le_of_ble_eq_true rfl) dX6_init_41 (w1 := [(b, .inr (6, [.int 0, .int 0, .int 0, .int 0, .int 0, .ref q1, .ref q2, .null, .long 0, .null])), (q1, .inl (cI, 4, .inl (fun _ => 0))), (q2, .inl (cI, 20, .inl (fun _ => 0)))]) rfl (fun H locs hP hD hS => ?_)
  refine lv_aload_n hx hb dX6_init_44 rfl (lv_at hl 0 rfl) ?_
  refine lv_bipush (v := 20) hx hb dX6_init_45 (by decide) ?_
  refine r_newa (atype := .int) (ty := .int) F rfl k_194 hK hP hD hS hA 0 rfl 20 (20, .inl (fun _ => 0)) (bw_cI 20) (by decide) (by decide) (bw_by (k := 4) rfl (by omega)) (Nat.le_of_ble_eq_true rfl) (Nat.le_of_ble_eq_true rfl) dX6_init_47 (w1 := fun q3 => [(b, .inr (6, [.int 0, .int 0, .int 0, .int 0, .int 0, .ref q1, .ref q2, .null, .long 0, .null])), (q1, .inl (cI, 4, .inl (fun _ => 0))), (q2, .inl (cI, 20, .inl (fun _ => 0))), (q3, .inl (cI, 20, .inl (fun _ => 0)))]) (fun _ => rfl) (fun q3 H hP hD hS => ?_)
  refine r_putF F hK hP hD hS 0 7 rfl rfl in_X6 tyX6 tyX6_ok nmX6 (by decide) k_336 rfl hin rfl rfl rfl (Nat.le_of_ble_eq_true rfl) dX6_init_49 (w1 := [(b, .inr (6, [.int 0, .int 0, .int 0, .int 0, .int 0, .ref q1, .ref q2, .ref q3, .long 0, .null])), (q1, .inl (cI, 4, .inl (fun _ => 0))), (q2, .inl (cI, 20, .inl (fun _ => 0))), (q3, .inl (cI, 20, .inl (fun _ => 0)))]) rfl (fun H locs hP hD hS => ?_)
  refine lv_aload_n hx hb dX6_init_52 rfl (lv_at hl 0 rfl) ?_
  refine lv_lconst (v := 0) hx hb dX6_init_53 rfl ?_
  refine r_put F hK hP hD hS 0 8 rfl rfl in_X6 tyX6 tyX6_ok nmX6 (by decide) k_338 rfl rfl rfl (Nat.le_of_ble_eq_true rfl) dX6_init_54 (w1 := [(b, .inr (6, [.int 0, .int 0, .int 0, .int 0, .int 0, .ref q1, .ref q2, .ref q3, .long 0, .null])), (q1, .inl (cI, 4, .inl (fun _ => 0))), (q2, .inl (cI, 20, .inl (fun _ => 0))), (q3, .inl (cI, 20, .inl (fun _ => 0)))]) rfl (fun H locs hP hD hS => ?_)
  refine lv_aload_n hx hb dX6_init_57 rfl (lv_at hl 0 rfl) ?_
  refine lv_bipush (v := 100) hx hb dX6_init_58 (by decide) ?_
  refine r_newa (atype := .int) (ty := .int) F rfl k_194 hK hP hD hS hA 0 rfl 100 (100, .inl (fun _ => 0)) (bw_cI 100) (by decide) (by decide) (bw_by (k := 4) rfl (by omega)) (Nat.le_of_ble_eq_true rfl) (Nat.le_of_ble_eq_true rfl) dX6_init_60 (w1 := fun q4 => [(b, .inr (6, [.int 0, .int 0, .int 0, .int 0, .int 0, .ref q1, .ref q2, .ref q3, .long 0, .null])), (q1, .inl (cI, 4, .inl (fun _ => 0))), (q2, .inl (cI, 20, .inl (fun _ => 0))), (q3, .inl (cI, 20, .inl (fun _ => 0))), (q4, .inl (cI, 100, .inl (fun _ => 0)))]) (fun _ => rfl) (fun q4 H hP hD hS => ?_)
  refine r_putF F hK hP hD hS 0 9 rfl rfl in_X6 tyX6 tyX6_ok nmX6 (by decide) k_339 rfl hin rfl rfl rfl (Nat.le_of_ble_eq_true rfl) dX6_init_62 (w1 := [(b, .inr (6, [.int 0, .int 0, .int 0, .int 0, .int 0, .ref q1, .ref q2, .ref q3, .long 0, .ref q4])), (q1, .inl (cI, 4, .inl (fun _ => 0))), (q2, .inl (cI, 20, .inl (fun _ => 0))), (q3, .inl (cI, 20, .inl (fun _ => 0))), (q4, .inl (cI, 100, .inl (fun _ => 0)))]) rfl (fun H locs hP hD hS => ?_)
  exact ret ((fun k => [q1, q2, q3, q4].getD k 0), fun _ _ => 0) _ _ _ _ _ _ trivial (bw_subP (isC := [0]) hP rfl) (hD.sub [0] (by decide) rfl) hS (Nat.le_of_ble_eq_true rfl) (Nat.le_of_ble_eq_true rfl) dX6_init_65
theorem dX5_init_0 : decode cX5_init 0 = .ok (.aload_n 0, 1) := by decide +kernel
theorem dX5_init_1 : decode cX5_init 1 = .ok (.invokespecial 3, 3) := by decide +kernel
theorem k_425 : Cond.methodLink RX5 3 Lib.objectInit ∈ bw_T := bw_m 425 (by decide +kernel) rfl
theorem dX5_init_4 : decode cX5_init 4 = .ok (.aload_n 0, 1) := by decide +kernel
theorem dX5_init_5 : decode cX5_init 5 = .ok (.iconst 0, 1) := by decide +kernel
theorem dX5_init_6 : decode cX5_init 6 = .ok (.putfield 9, 3) := by decide +kernel
theorem k_426 : Cond.fieldLink RX5 9 "BurntWays$Trail" "known" "Z" ∈ bw_T := bw_m 426 (by decide +kernel) rfl
theorem in_X5 : ∀ w ∈ wsX50, w ∈ bw_T := bw_ms _ [433, 435, 437, 439] (by decide +kernel) (by decide +kernel)
theorem dX5_init_9 : decode cX5_init 9 = .ok (.aload_n 0, 1) := by decide +kernel
theorem dX5_init_10 : decode cX5_init 10 = .ok (.bipush (-2), 2) := by decide +kernel
theorem dX5_init_12 : decode cX5_init 12 = .ok (.putfield 15, 3) := by decide +kernel
theorem k_428 : Cond.fieldLink RX5 15 "BurntWays$Trail" "length" "I" ∈ bw_T := bw_m 428 (by decide +kernel) rfl
theorem dX5_init_15 : decode cX5_init 15 = .ok (.aload_n 0, 1) := by decide +kernel
theorem dX5_init_16 : decode cX5_init 16 = .ok (.sipush 180, 3) := by decide +kernel
theorem dX5_init_19 : decode cX5_init 19 = .ok (.newarray .int, 2) := by decide +kernel
theorem dX5_init_21 : decode cX5_init 21 = .ok (.putfield 19, 3) := by decide +kernel
theorem k_430 : Cond.fieldLink RX5 19 "BurntWays$Trail" "ways" "[I" ∈ bw_T := bw_m 430 (by decide +kernel) rfl
theorem dX5_init_24 : decode cX5_init 24 = .ok (.aload_n 0, 1) := by decide +kernel
theorem dX5_init_25 : decode cX5_init 25 = .ok (.bipush 20, 2) := by decide +kernel
theorem dX5_init_27 : decode cX5_init 27 = .ok (.newarray .int, 2) := by decide +kernel
theorem dX5_init_29 : decode cX5_init 29 = .ok (.putfield 23, 3) := by decide +kernel
theorem k_432 : Cond.fieldLink RX5 23 "BurntWays$Trail" "waysLeft" "[I" ∈ bw_T := bw_m 432 (by decide +kernel) rfl
theorem dX5_init_32 : decode cX5_init 32 = .ok (.return_, 1) := by decide +kernel
abbrev rm_X5_init : Room := { frames := 1, cells := 2, slots := 200, locals := 12 }
set_option maxRecDepth 100000 in
set_option maxHeartbeats 4000000 in
theorem c_X5_init {l : Launch} {E : (Nat → Prop) → State → Prop} (hO : bw_Ok E) {G : va_G} {cI cB cJ cN cW : ClassId} (b : Nat) : bw_Cv (S := bw_U) l yX5_init (bw_ws (Cond.code yX5_init cX5_init 1 none)) rm_X5_init E G (bw_kt cI cB cJ cN cW) [.ref b] [(b, .inr (5, [.int 0, .int 0, .null, .null]))] (fun _ => True) (fun _ => []) := by
  refine bw_Cv.of (cc := cX5_init) (maxL := 1) (by decide) rfl (Nat.le_of_ble_eq_true rfl) ?_
  intro p e s m below meth c A Q hx hb hml hts hown hin hK hA hS hP hD hE ret ls hl
  have F : CallFix p m c cX5_init 1 s ([.ref b] : List Value).toArray bw_T RX5 := ⟨hx, hb, hml, hown, fun w h => hts w (List.mem_cons_of_mem _ h)⟩
  have hl : lv_has ls 1 [(0, .ref b)] := hl
  refine lv_aload_n hx hb dX5_init_0 rfl (lv_at hl 0 rfl) ?_
  refine r_objInit F k_425 k_oi k_oc hl.1 dX5_init_1 (Nat.le_of_ble_eq_true rfl) (Nat.le_of_ble_eq_true rfl) ?_
  refine lv_aload_n hx hb dX5_init_4 rfl (lv_at hl 0 rfl) ?_
  refine lv_iconst (v := 0) hx hb dX5_init_5 (by decide) ?_
  refine r_put F hK hP hD hS 0 0 rfl rfl in_X5 tyX5 tyX5_ok nmX5 (by decide) k_426 rfl rfl rfl (Nat.le_of_ble_eq_true rfl) dX5_init_6 (w1 := [(b, .inr (5, [.int 0, .int 0, .null, .null]))]) rfl (fun H locs hP hD hS => ?_)
  refine lv_aload_n hx hb dX5_init_9 rfl (lv_at hl 0 rfl) ?_
  refine lv_bipush (v := (-2)) hx hb dX5_init_10 (by decide) ?_
  refine r_put F hK hP hD hS 0 1 rfl rfl in_X5 tyX5 tyX5_ok nmX5 (by decide) k_428 rfl rfl rfl (Nat.le_of_ble_eq_true rfl) dX5_init_12 (w1 := [(b, .inr (5, [.int 0, .int (-2), .null, .null]))]) rfl (fun H locs hP hD hS => ?_)
  refine lv_aload_n hx hb dX5_init_15 rfl (lv_at hl 0 rfl) ?_
  refine lv_sipush (v := 180) hx hb dX5_init_16 (by decide) ?_
  refine r_newa (atype := .int) (ty := .int) F rfl k_194 hK hP hD hS hA 0 rfl 180 (180, .inl (fun _ => 0)) (bw_cI 180) (by decide) (by decide) (bw_by (k := 4) rfl (by omega)) (Nat.le_of_ble_eq_true rfl) (Nat.le_of_ble_eq_true rfl) dX5_init_19 (w1 := fun q1 => [(b, .inr (5, [.int 0, .int (-2), .null, .null])), (q1, .inl (cI, 180, .inl (fun _ => 0)))]) (fun _ => rfl) (fun q1 H hP hD hS => ?_)
  refine r_putF F hK hP hD hS 0 2 rfl rfl in_X5 tyX5 tyX5_ok nmX5 (by decide) k_430 rfl hin rfl rfl rfl (Nat.le_of_ble_eq_true rfl) dX5_init_21 (w1 := [(b, .inr (5, [.int 0, .int (-2), .ref q1, .null])), (q1, .inl (cI, 180, .inl (fun _ => 0)))]) rfl (fun H locs hP hD hS => ?_)
  refine lv_aload_n hx hb dX5_init_24 rfl (lv_at hl 0 rfl) ?_
  refine lv_bipush (v := 20) hx hb dX5_init_25 (by decide) ?_
  refine r_newa (atype := .int) (ty := .int) F rfl k_194 hK hP hD hS hA 0 rfl 20 (20, .inl (fun _ => 0)) (bw_cI 20) (by decide) (by decide) (bw_by (k := 4) rfl (by omega)) (Nat.le_of_ble_eq_true rfl) (Nat.le_of_ble_eq_true rfl) dX5_init_27 (w1 := fun q2 => [(b, .inr (5, [.int 0, .int (-2), .ref q1, .null])), (q1, .inl (cI, 180, .inl (fun _ => 0))), (q2, .inl (cI, 20, .inl (fun _ => 0)))]) (fun _ => rfl) (fun q2 H hP hD hS => ?_)
  refine r_putF F hK hP hD hS 0 3 rfl rfl in_X5 tyX5 tyX5_ok nmX5 (by decide) k_432 rfl hin rfl rfl rfl (Nat.le_of_ble_eq_true rfl) dX5_init_29 (w1 := [(b, .inr (5, [.int 0, .int (-2), .ref q1, .ref q2])), (q1, .inl (cI, 180, .inl (fun _ => 0))), (q2, .inl (cI, 20, .inl (fun _ => 0)))]) rfl (fun H locs hP hD hS => ?_)
  exact ret (fun _ => 0, fun _ _ => 0) _ _ _ _ _ _ trivial (bw_subP (isC := []) hP rfl) (hD.sub [] (by decide) rfl) hS (Nat.le_of_ble_eq_true rfl) (Nat.le_of_ble_eq_true rfl) dX5_init_32
theorem dX0_init_0 : decode cX0_init 0 = .ok (.aload_n 0, 1) := by decide +kernel
theorem dX0_init_1 : decode cX0_init 1 = .ok (.invokespecial 3, 3) := by decide +kernel
theorem k_447 : Cond.methodLink RX0 3 Lib.objectInit ∈ bw_T := bw_m 447 (by decide +kernel) rfl
theorem dX0_init_4 : decode cX0_init 4 = .ok (.aload_n 0, 1) := by decide +kernel
theorem dX0_init_5 : decode cX0_init 5 = .ok (.bipush 10, 2) := by decide +kernel
theorem dX0_init_7 : decode cX0_init 7 = .ok (.newarray .int, 2) := by decide +kernel
theorem dX0_init_9 : decode cX0_init 9 = .ok (.putfield 9, 3) := by decide +kernel
theorem k_448 : Cond.fieldLink RX0 9 "BurntWays$Least" "lineCounts" "[I" ∈ bw_T := bw_m 448 (by decide +kernel) rfl
theorem in_X0 : ∀ w ∈ wsX00, w ∈ bw_T := bw_ms _ [455, 457, 459, 461, 463, 465, 467] (by decide +kernel) (by decide +kernel)
theorem dX0_init_12 : decode cX0_init 12 = .ok (.aload_n 0, 1) := by decide +kernel
theorem dX0_init_13 : decode cX0_init 13 = .ok (.bipush 30, 2) := by decide +kernel
theorem dX0_init_15 : decode cX0_init 15 = .ok (.newarray .int, 2) := by decide +kernel
theorem dX0_init_17 : decode cX0_init 17 = .ok (.putfield 15, 3) := by decide +kernel
theorem k_449 : Cond.fieldLink RX0 15 "BurntWays$Least" "found" "[I" ∈ bw_T := bw_m 449 (by decide +kernel) rfl
theorem dX0_init_20 : decode cX0_init 20 = .ok (.aload_n 0, 1) := by decide +kernel
theorem dX0_init_21 : decode cX0_init 21 = .ok (.iconst 3, 1) := by decide +kernel
theorem dX0_init_22 : decode cX0_init 22 = .ok (.newarray .int, 2) := by decide +kernel
theorem dX0_init_24 : decode cX0_init 24 = .ok (.putfield 18, 3) := by decide +kernel
theorem k_450 : Cond.fieldLink RX0 18 "BurntWays$Least" "numbers" "[I" ∈ bw_T := bw_m 450 (by decide +kernel) rfl
theorem dX0_init_27 : decode cX0_init 27 = .ok (.aload_n 0, 1) := by decide +kernel
theorem dX0_init_28 : decode cX0_init 28 = .ok (.iconst 3, 1) := by decide +kernel
theorem dX0_init_29 : decode cX0_init 29 = .ok (.newarray .int, 2) := by decide +kernel
theorem dX0_init_31 : decode cX0_init 31 = .ok (.putfield 21, 3) := by decide +kernel
theorem k_451 : Cond.fieldLink RX0 21 "BurntWays$Least" "acts" "[I" ∈ bw_T := bw_m 451 (by decide +kernel) rfl
theorem dX0_init_34 : decode cX0_init 34 = .ok (.aload_n 0, 1) := by decide +kernel
theorem dX0_init_35 : decode cX0_init 35 = .ok (.iconst 3, 1) := by decide +kernel
theorem dX0_init_36 : decode cX0_init 36 = .ok (.newarray .int, 2) := by decide +kernel
theorem dX0_init_38 : decode cX0_init 38 = .ok (.putfield 24, 3) := by decide +kernel
theorem k_452 : Cond.fieldLink RX0 24 "BurntWays$Least" "toLines" "[I" ∈ bw_T := bw_m 452 (by decide +kernel) rfl
theorem dX0_init_41 : decode cX0_init 41 = .ok (.aload_n 0, 1) := by decide +kernel
theorem dX0_init_42 : decode cX0_init 42 = .ok (.iconst 3, 1) := by decide +kernel
theorem dX0_init_43 : decode cX0_init 43 = .ok (.newarray .int, 2) := by decide +kernel
theorem dX0_init_45 : decode cX0_init 45 = .ok (.putfield 27, 3) := by decide +kernel
theorem k_453 : Cond.fieldLink RX0 27 "BurntWays$Least" "elseLines" "[I" ∈ bw_T := bw_m 453 (by decide +kernel) rfl
theorem dX0_init_48 : decode cX0_init 48 = .ok (.aload_n 0, 1) := by decide +kernel
theorem dX0_init_49 : decode cX0_init 49 = .ok (.bipush 6, 2) := by decide +kernel
theorem dX0_init_51 : decode cX0_init 51 = .ok (.newarray .int, 2) := by decide +kernel
theorem dX0_init_53 : decode cX0_init 53 = .ok (.putfield 30, 3) := by decide +kernel
theorem k_454 : Cond.fieldLink RX0 30 "BurntWays$Least" "taken" "[I" ∈ bw_T := bw_m 454 (by decide +kernel) rfl
theorem dX0_init_56 : decode cX0_init 56 = .ok (.return_, 1) := by decide +kernel
abbrev rm_X0_init : Room := { frames := 1, cells := 7, slots := 58, locals := 12 }
set_option maxRecDepth 100000 in
set_option maxHeartbeats 4000000 in
theorem c_X0_init {l : Launch} {E : (Nat → Prop) → State → Prop} (hO : bw_Ok E) {G : va_G} {cI cB cJ cN cW : ClassId} (b : Nat) : bw_Cv (S := bw_U) l yX0_init (bw_ws (Cond.code yX0_init cX0_init 1 none)) rm_X0_init E G (bw_kt cI cB cJ cN cW) [.ref b] [(b, .inr (0, [.null, .null, .null, .null, .null, .null, .null]))] (fun _ => True) (fun _ => []) := by
  refine bw_Cv.of (cc := cX0_init) (maxL := 1) (by decide) rfl (Nat.le_of_ble_eq_true rfl) ?_
  intro p e s m below meth c A Q hx hb hml hts hown hin hK hA hS hP hD hE ret ls hl
  have F : CallFix p m c cX0_init 1 s ([.ref b] : List Value).toArray bw_T RX0 := ⟨hx, hb, hml, hown, fun w h => hts w (List.mem_cons_of_mem _ h)⟩
  have hl : lv_has ls 1 [(0, .ref b)] := hl
  refine lv_aload_n hx hb dX0_init_0 rfl (lv_at hl 0 rfl) ?_
  refine r_objInit F k_447 k_oi k_oc hl.1 dX0_init_1 (Nat.le_of_ble_eq_true rfl) (Nat.le_of_ble_eq_true rfl) ?_
  refine lv_aload_n hx hb dX0_init_4 rfl (lv_at hl 0 rfl) ?_
  refine lv_bipush (v := 10) hx hb dX0_init_5 (by decide) ?_
  refine r_newa (atype := .int) (ty := .int) F rfl k_194 hK hP hD hS hA 0 rfl 10 (10, .inl (fun _ => 0)) (bw_cI 10) (by decide) (by decide) (bw_by (k := 4) rfl (by omega)) (Nat.le_of_ble_eq_true rfl) (Nat.le_of_ble_eq_true rfl) dX0_init_7 (w1 := fun q1 => [(b, .inr (0, [.null, .null, .null, .null, .null, .null, .null])), (q1, .inl (cI, 10, .inl (fun _ => 0)))]) (fun _ => rfl) (fun q1 H hP hD hS => ?_)
  refine r_putF F hK hP hD hS 0 0 rfl rfl in_X0 tyX0 tyX0_ok nmX0 (by decide) k_448 rfl hin rfl rfl rfl (Nat.le_of_ble_eq_true rfl) dX0_init_9 (w1 := [(b, .inr (0, [.ref q1, .null, .null, .null, .null, .null, .null])), (q1, .inl (cI, 10, .inl (fun _ => 0)))]) rfl (fun H locs hP hD hS => ?_)
  refine lv_aload_n hx hb dX0_init_12 rfl (lv_at hl 0 rfl) ?_
  refine lv_bipush (v := 30) hx hb dX0_init_13 (by decide) ?_
  refine r_newa (atype := .int) (ty := .int) F rfl k_194 hK hP hD hS hA 0 rfl 30 (30, .inl (fun _ => 0)) (bw_cI 30) (by decide) (by decide) (bw_by (k := 4) rfl (by omega)) (Nat.le_of_ble_eq_true rfl) (Nat.le_of_ble_eq_true rfl) dX0_init_15 (w1 := fun q2 => [(b, .inr (0, [.ref q1, .null, .null, .null, .null, .null, .null])), (q1, .inl (cI, 10, .inl (fun _ => 0))), (q2, .inl (cI, 30, .inl (fun _ => 0)))]) (fun _ => rfl) (fun q2 H hP hD hS => ?_)
  refine r_putF F hK hP hD hS 0 1 rfl rfl in_X0 tyX0 tyX0_ok nmX0 (by decide) k_449 rfl hin rfl rfl rfl (Nat.le_of_ble_eq_true rfl) dX0_init_17 (w1 := [(b, .inr (0, [.ref q1, .ref q2, .null, .null, .null, .null, .null])), (q1, .inl (cI, 10, .inl (fun _ => 0))), (q2, .inl (cI, 30, .inl (fun _ => 0)))]) rfl (fun H locs hP hD hS => ?_)
  refine lv_aload_n hx hb dX0_init_20 rfl (lv_at hl 0 rfl) ?_
  refine lv_iconst (v := 3) hx hb dX0_init_21 (by decide) ?_
  refine r_newa (atype := .int) (ty := .int) F rfl k_194 hK hP hD hS hA 0 rfl 3 (3, .inl (fun _ => 0)) (bw_cI 3) (by decide) (by decide) (bw_by (k := 4) rfl (by omega)) (Nat.le_of_ble_eq_true rfl) (Nat.le_of_ble_eq_true rfl) dX0_init_22 (w1 := fun q3 => [(b, .inr (0, [.ref q1, .ref q2, .null, .null, .null, .null, .null])), (q1, .inl (cI, 10, .inl (fun _ => 0))), (q2, .inl (cI, 30, .inl (fun _ => 0))), (q3, .inl (cI, 3, .inl (fun _ => 0)))]) (fun _ => rfl) (fun q3 H hP hD hS => ?_)
  refine r_putF F hK hP hD hS 0 2 rfl rfl in_X0 tyX0 tyX0_ok nmX0 (by decide) k_450 rfl hin rfl rfl rfl (Nat.le_of_ble_eq_true rfl) dX0_init_24 (w1 := [(b, .inr (0, [.ref q1, .ref q2, .ref q3, .null, .null, .null, .null])), (q1, .inl (cI, 10, .inl (fun _ => 0))), (q2, .inl (cI, 30, .inl (fun _ => 0))), (q3, .inl (cI, 3, .inl (fun _ => 0)))]) rfl (fun H locs hP hD hS => ?_)
  refine lv_aload_n hx hb dX0_init_27 rfl (lv_at hl 0 rfl) ?_
  refine lv_iconst (v := 3) hx hb dX0_init_28 (by decide) ?_
  refine r_newa (atype := .int) (ty := .int) F rfl k_194 hK hP hD hS hA 0 rfl 3 (3, .inl (fun _ => 0)) (bw_cI 3) (by decide) (by decide) (bw_by (k := 4) rfl (by omega)) (Nat.le_of_ble_eq_true rfl) (Nat.le_of_ble_eq_true rfl) dX0_init_29 (w1 := fun q4 => [(b, .inr (0, [.ref q1, .ref q2, .ref q3, .null, .null, .null, .null])), (q1, .inl (cI, 10, .inl (fun _ => 0))), (q2, .inl (cI, 30, .inl (fun _ => 0))), (q3, .inl (cI, 3, .inl (fun _ => 0))), (q4, .inl (cI, 3, .inl (fun _ => 0)))]) (fun _ => rfl) (fun q4 H hP hD hS => ?_)
  refine r_putF F hK hP hD hS 0 3 rfl rfl in_X0 tyX0 tyX0_ok nmX0 (by decide) k_451 rfl hin rfl rfl rfl (Nat.le_of_ble_eq_true rfl) dX0_init_31 (w1 := [(b, .inr (0, [.ref q1, .ref q2, .ref q3, .ref q4, .null, .null, .null])), (q1, .inl (cI, 10, .inl (fun _ => 0))), (q2, .inl (cI, 30, .inl (fun _ => 0))), (q3, .inl (cI, 3, .inl (fun _ => 0))), (q4, .inl (cI, 3, .inl (fun _ => 0)))]) rfl (fun H locs hP hD hS => ?_)
  refine lv_aload_n hx hb dX0_init_34 rfl (lv_at hl 0 rfl) ?_
  refine lv_iconst (v := 3) hx hb dX0_init_35 (by decide) ?_
  refine r_newa (atype := .int) (ty := .int) F rfl k_194 hK hP hD hS hA 0 rfl 3 (3, .inl (fun _ => 0)) (bw_cI 3) (by decide) (by decide) (bw_by (k := 4) rfl (by omega)) (Nat.le_of_ble_eq_true rfl) (Nat.le_of_ble_eq_true rfl) dX0_init_36 (w1 := fun q5 => [(b, .inr (0, [.ref q1, .ref q2, .ref q3, .ref q4, .null, .null, .null])), (q1, .inl (cI, 10, .inl (fun _ => 0))), (q2, .inl (cI, 30, .inl (fun _ => 0))), (q3, .inl (cI, 3, .inl (fun _ => 0))), (q4, .inl (cI, 3, .inl (fun _ => 0))), (q5, .inl (cI, 3, .inl (fun _ => 0)))]) (fun _ => rfl) (fun q5 H hP hD hS => ?_)
  refine r_putF F hK hP hD hS 0 4 rfl rfl in_X0 tyX0 tyX0_ok nmX0 (by decide) k_452 rfl hin rfl rfl rfl (Nat.le_of_ble_eq_true rfl) dX0_init_38 (w1 := [(b, .inr (0, [.ref q1, .ref q2, .ref q3, .ref q4, .ref q5, .null, .null])), (q1, .inl (cI, 10, .inl (fun _ => 0))), (q2, .inl (cI, 30, .inl (fun _ => 0))), (q3, .inl (cI, 3, .inl (fun _ => 0))), (q4, .inl (cI, 3, .inl (fun _ => 0))), (q5, .inl (cI, 3, .inl (fun _ => 0)))]) rfl (fun H locs hP hD hS => ?_)
  refine lv_aload_n hx hb dX0_init_41 rfl (lv_at hl 0 rfl) ?_
  refine lv_iconst (v := 3) hx hb dX0_init_42 (by decide) ?_
  refine r_newa (atype := .int) (ty := .int) F rfl k_194 hK hP hD hS hA 0 rfl 3 (3, .inl (fun _ => 0)) (bw_cI 3) (by decide) (by decide) (bw_by (k := 4) rfl (by omega)) (Nat.le_of_ble_eq_true rfl) (Nat.le_of_ble_eq_true rfl) dX0_init_43 (w1 := fun q6 => [(b, .inr (0, [.ref q1, .ref q2, .ref q3, .ref q4, .ref q5, .null, .null])), (q1, .inl (cI, 10, .inl (fun _ => 0))), (q2, .inl (cI, 30, .inl (fun _ => 0))), (q3, .inl (cI, 3, .inl (fun _ => 0))), (q4, .inl (cI, 3, .inl (fun _ => 0))), (q5, .inl (cI, 3, .inl (fun _ => 0))), (q6, .inl (cI, 3, .inl (fun _ => 0)))]) (fun _ => rfl) (fun q6 H hP hD hS => ?_)
  refine r_putF F hK hP hD hS 0 5 rfl rfl in_X0 tyX0 tyX0_ok nmX0 (by decide) k_453 rfl hin rfl rfl rfl (Nat.le_of_ble_eq_true rfl) dX0_init_45 (w1 := [(b, .inr (0, [.ref q1, .ref q2, .ref q3, .ref q4, .ref q5, .ref q6, .null])), (q1, .inl (cI, 10, .inl (fun _ => 0))), (q2, .inl (cI, 30, .inl (fun _ => 0))), (q3, .inl (cI, 3, .inl (fun _ => 0))), (q4, .inl (cI, 3, .inl (fun _ => 0))), (q5, .inl (cI, 3, .inl (fun _ => 0))), (q6, .inl (cI, 3, .inl (fun _ => 0)))]) rfl (fun H locs hP hD hS => ?_)
  refine lv_aload_n hx hb dX0_init_48 rfl (lv_at hl 0 rfl) ?_
  refine lv_bipush (v := 6) hx hb dX0_init_49 (by decide) ?_
  refine r_newa (atype := .int) (ty := .int) F rfl k_194 hK hP hD hS hA 0 rfl 6 (6, .inl (fun _ => 0)) (bw_cI 6) (by decide) (by decide) (bw_by (k := 4) rfl (by omega)) (Nat.le_of_ble_eq_true rfl) (Nat.le_of_ble_eq_true rfl) dX0_init_51 (w1 := fun q7 => [(b, .inr (0, [.ref q1, .ref q2, .ref q3, .ref q4, .ref q5, .ref q6, .null])), (q1, .inl (cI, 10, .inl (fun _ => 0))), (q2, .inl (cI, 30, .inl (fun _ => 0))), (q3, .inl (cI, 3, .inl (fun _ => 0))), (q4, .inl (cI, 3, .inl (fun _ => 0))), (q5, .inl (cI, 3, .inl (fun _ => 0))), (q6, .inl (cI, 3, .inl (fun _ => 0))), (q7, .inl (cI, 6, .inl (fun _ => 0)))]) (fun _ => rfl) (fun q7 H hP hD hS => ?_)
  refine r_putF F hK hP hD hS 0 6 rfl rfl in_X0 tyX0 tyX0_ok nmX0 (by decide) k_454 rfl hin rfl rfl rfl (Nat.le_of_ble_eq_true rfl) dX0_init_53 (w1 := [(b, .inr (0, [.ref q1, .ref q2, .ref q3, .ref q4, .ref q5, .ref q6, .ref q7])), (q1, .inl (cI, 10, .inl (fun _ => 0))), (q2, .inl (cI, 30, .inl (fun _ => 0))), (q3, .inl (cI, 3, .inl (fun _ => 0))), (q4, .inl (cI, 3, .inl (fun _ => 0))), (q5, .inl (cI, 3, .inl (fun _ => 0))), (q6, .inl (cI, 3, .inl (fun _ => 0))), (q7, .inl (cI, 6, .inl (fun _ => 0)))]) rfl (fun H locs hP hD hS => ?_)
  exact ret (fun _ => 0, fun _ _ => 0) _ _ _ _ _ _ trivial (bw_subP (isC := []) hP rfl) (hD.sub [] (by decide) rfl) hS (Nat.le_of_ble_eq_true rfl) (Nat.le_of_ble_eq_true rfl) dX0_init_56
end
section
/-- what the start says of the one text that is read: its cells, and the statics on the way -/
def bw_Text (E : (Nat → Prop) → State → Prop) (sa va N : Nat) (f : Nat → Int32) : Prop := N < 2 ^ 31 ∧ ∀ (A : Nat → Prop) (U : State), E A U → vk_R RX3 65 "program line want do up down set give then end to if by else is a b c d " sa U ∧ bw_Str sa va N f A U U.heap ∧ va_Z "java/lang/String" "COMPACT_STRINGS" "Z" (.int 1) A U U.heap ∧ va_Zq "jdk/internal/util/Preconditions" "SIOOBE_FORMATTER" "Ljava/util/function/BiFunction;" A U U.heap
/-- the links between nest mates, and the array classes of our own -/
def bw_Nests (E : (Nat → Prop) → State → Prop) : Prop := ∀ (A : Nat → Prop) (U : State), E A U → va_Nw (.methodLinkNest RX3 28 yX7_init RX8) U ∧ va_Nw (.methodLinkNest RX8 39 yX7_init RX8) U ∧ va_Nw (.methodLinkNest RX8 46 yX6_init RX8) U ∧ va_Nw (.methodLinkNest RX8 59 yX4_init RX8) U ∧ va_Nw (.methodLinkNest RX4 51 yX6_init RX8) U ∧ va_Nw (.methodLinkNest RX8 66 yX5_init RX8) U ∧ va_Nw (.methodLinkNest RX8 73 yX0_init RX8) U ∧ va_Nw (.methodLinkNest RX1 28 yX6_init RX8) U ∧ va_AO "BurntWays$Net" U ∧ va_AO "BurntWays$Walk" U
theorem bw_inlt {i : Int32} {N : Nat} (hN : N < 2 ^ 31) (h0 : ¬ i < 0) (h1 : i < nI N) : vp_in i N := by
  obtain ⟨j, hj, rfl⟩ := nI_of h0
  exact vp_in_nI ((nI_ltI hj hN).mp h1) hN
theorem dJ0_coder_7d493_0 : decode cJ0_coder_7d493 0 = .ok (.getstatic 38, 3) := by decide +kernel
theorem k_220 : Cond.fieldLink RJ0 38 "java/lang/String" "COMPACT_STRINGS" "Z" ∈ bw_T := bw_m 220 (by decide +kernel) rfl
theorem dJ0_coder_7d493_3 : decode cJ0_coder_7d493 3 = .ok (.ifCond .eq 10, 3) := by decide +kernel
theorem dJ0_coder_7d493_6 : decode cJ0_coder_7d493 6 = .ok (.aload_n 0, 1) := by decide +kernel
theorem dJ0_coder_7d493_7 : decode cJ0_coder_7d493 7 = .ok (.getfield 15, 3) := by decide +kernel
theorem k_1740 : Cond.fieldLink RJ0 15 "java/lang/String" "coder" "B" ∈ bw_T := bw_m 1740 (by decide +kernel) rfl
theorem dJ0_coder_7d493_10 : decode cJ0_coder_7d493 10 = .ok (.goto 4, 3) := by decide +kernel
theorem dJ0_coder_7d493_14 : decode cJ0_coder_7d493 14 = .ok (.ireturn, 1) := by decide +kernel
abbrev rm_J0_coder : Room := { frames := 0, cells := 0, slots := 0, locals := 0 }
set_option maxRecDepth 100000 in
set_option maxHeartbeats 4000000 in
theorem c_J0_coder {l : Launch} {E : (Nat → Prop) → State → Prop} (hO : bw_Ok E) {G : va_G} {cI cB cJ cN cW : ClassId} {sa va N : Nat} {fb : Nat → Int32} (hT : bw_Text E sa va N fb) : bw_Ci (S := bw_U) l yJ0_coder_7d493 (bw_ws (Cond.code yJ0_coder_7d493 cJ0_coder_7d493 1 (some .byte))) rm_J0_coder E G (bw_kt cI cB cJ cN cW) [.ref sa] [] (fun r _ => r = 0) (fun _ => []) := by
  refine bw_Ci.of (cc := cJ0_coder_7d493) (maxL := 1) (ty := .byte) (by decide) rfl (Nat.le_of_ble_eq_true rfl) ?_
  intro p e s m below meth c A Q hx hb hml hts hown hin hK hA hS hP hD hE ret ls hl
  have F : CallFix p m c cJ0_coder_7d493 1 s ([.ref sa] : List Value).toArray bw_T RJ0 := ⟨hx, hb, hml, hown, fun w h => hts w (List.mem_cons_of_mem _ h)⟩
  have hl : lv_has ls 1 [(0, .ref sa)] := hl
  refine r_gets F (hT.2 _ _ hE).2.2.1 hS k_220 dJ0_coder_7d493_0 ?_
  refine lv_if_eq (tgt := 13) hx hb dJ0_coder_7d493_3 (by decide) (fun h9 => absurd h9 (by decide)) (fun _ => ?_)
  refine lv_aload_n hx hb dJ0_coder_7d493_6 rfl (lv_at hl 0 rfl) ?_
  refine r_sget F (hT.2 _ _ hE).2.1.2.1 hS k_1740 dJ0_coder_7d493_7 ?_
  refine lv_goto (tgt := 14) hx hb dJ0_coder_7d493_10 (by decide) ?_
  exact ret 0 (fun _ => 0, fun _ _ => 0) _ _ _ _ _ _ rfl rfl (bw_subP (isC := []) hP rfl) (hD.sub [] (by decide) rfl) hS (Nat.le_of_ble_eq_true rfl) (Nat.le_of_ble_eq_true rfl) dJ0_coder_7d493_14
theorem dJ0_isLatin1_aae02_0 : decode cJ0_isLatin1_aae02 0 = .ok (.getstatic 38, 3) := by decide +kernel
theorem dJ0_isLatin1_aae02_3 : decode cJ0_isLatin1_aae02 3 = .ok (.ifCond .eq 14, 3) := by decide +kernel
theorem dJ0_isLatin1_aae02_6 : decode cJ0_isLatin1_aae02 6 = .ok (.aload_n 0, 1) := by decide +kernel
theorem dJ0_isLatin1_aae02_7 : decode cJ0_isLatin1_aae02 7 = .ok (.getfield 15, 3) := by decide +kernel
theorem dJ0_isLatin1_aae02_10 : decode cJ0_isLatin1_aae02 10 = .ok (.ifCond .ne 7, 3) := by decide +kernel
theorem dJ0_isLatin1_aae02_13 : decode cJ0_isLatin1_aae02 13 = .ok (.iconst 1, 1) := by decide +kernel
theorem dJ0_isLatin1_aae02_14 : decode cJ0_isLatin1_aae02 14 = .ok (.goto 4, 3) := by decide +kernel
theorem dJ0_isLatin1_aae02_18 : decode cJ0_isLatin1_aae02 18 = .ok (.ireturn, 1) := by decide +kernel
abbrev rm_J0_isLatin1 : Room := { frames := 0, cells := 0, slots := 0, locals := 0 }
set_option maxRecDepth 100000 in
set_option maxHeartbeats 4000000 in
theorem c_J0_isLatin1 {l : Launch} {E : (Nat → Prop) → State → Prop} (hO : bw_Ok E) {G : va_G} {cI cB cJ cN cW : ClassId} {sa va N : Nat} {fb : Nat → Int32} (hT : bw_Text E sa va N fb) : bw_Ci (S := bw_U) l yJ0_isLatin1_aae02 (bw_ws (Cond.code yJ0_isLatin1_aae02 cJ0_isLatin1_aae02 1 (some .boolean))) rm_J0_isLatin1 E G (bw_kt cI cB cJ cN cW) [.ref sa] [] (fun r _ => r = 1) (fun _ => []) := by
  refine bw_Ci.of (cc := cJ0_isLatin1_aae02) (maxL := 1) (ty := .boolean) (by decide) rfl (Nat.le_of_ble_eq_true rfl) ?_
  intro p e s m below meth c A Q hx hb hml hts hown hin hK hA hS hP hD hE ret ls hl
  have F : CallFix p m c cJ0_isLatin1_aae02 1 s ([.ref sa] : List Value).toArray bw_T RJ0 := ⟨hx, hb, hml, hown, fun w h => hts w (List.mem_cons_of_mem _ h)⟩
  have hl : lv_has ls 1 [(0, .ref sa)] := hl
  refine r_gets F (hT.2 _ _ hE).2.2.1 hS k_220 dJ0_isLatin1_aae02_0 ?_
  refine lv_if_eq (tgt := 17) hx hb dJ0_isLatin1_aae02_3 (by decide) (fun h9 => absurd h9 (by decide)) (fun _ => ?_)
  refine lv_aload_n hx hb dJ0_isLatin1_aae02_6 rfl (lv_at hl 0 rfl) ?_
  refine r_sget F (hT.2 _ _ hE).2.1.2.1 hS k_1740 dJ0_isLatin1_aae02_7 ?_
  refine lv_if_ne (tgt := 17) hx hb dJ0_isLatin1_aae02_10 (by decide) (fun h9 => absurd (by decide) h9) (fun _ => ?_)
  refine lv_iconst (v := 1) hx hb dJ0_isLatin1_aae02_13 (by decide) ?_
  refine lv_goto (tgt := 18) hx hb dJ0_isLatin1_aae02_14 (by decide) ?_
  exact ret 1 (fun _ => 0, fun _ _ => 0) _ _ _ _ _ _ rfl rfl (bw_subP (isC := []) hP rfl) (hD.sub [] (by decide) rfl) hS (Nat.le_of_ble_eq_true rfl) (Nat.le_of_ble_eq_true rfl) dJ0_isLatin1_aae02_18
theorem dJ0_length_8abf5_0 : decode cJ0_length_8abf5 0 = .ok (.aload_n 0, 1) := by decide +kernel
theorem dJ0_length_8abf5_1 : decode cJ0_length_8abf5 1 = .ok (.getfield 9, 3) := by decide +kernel
theorem k_1739 : Cond.fieldLink RJ0 9 "java/lang/String" "value" "[B" ∈ bw_T := bw_m 1739 (by decide +kernel) rfl
theorem dJ0_length_8abf5_4 : decode cJ0_length_8abf5 4 = .ok (.arraylength, 1) := by decide +kernel
theorem dJ0_length_8abf5_5 : decode cJ0_length_8abf5 5 = .ok (.aload_n 0, 1) := by decide +kernel
theorem dJ0_length_8abf5_6 : decode cJ0_length_8abf5 6 = .ok (.invokevirtual 335, 3) := by decide +kernel
theorem k_216 : Cond.methodLink RJ0 335 yJ0_coder_7d493 ∈ bw_T := bw_m 216 (by decide +kernel) rfl
theorem kv_J0_coder_7d493 : bw_KV RJ0 yJ0_coder_7d493 (Cond.code yJ0_coder_7d493 cJ0_coder_7d493 1 (some .byte)) := ⟨bw_m 217 (by decide +kernel) rfl, bw_m 218 (by decide +kernel) rfl, bw_m 98 (by decide +kernel) rfl, bw_m 219 (by decide +kernel) rfl⟩
theorem dJ0_length_8abf5_9 : decode cJ0_length_8abf5 9 = .ok (.ishr, 1) := by decide +kernel
theorem dJ0_length_8abf5_10 : decode cJ0_length_8abf5 10 = .ok (.ireturn, 1) := by decide +kernel
abbrev rm_J0_length : Room := { frames := 1, cells := 0, slots := 0, locals := 20 }
set_option maxRecDepth 100000 in
set_option maxHeartbeats 4000000 in
theorem c_J0_length {l : Launch} {E : (Nat → Prop) → State → Prop} (hO : bw_Ok E) {G : va_G} {cI cB cJ cN cW : ClassId} {sa va N : Nat} {fb : Nat → Int32} (hT : bw_Text E sa va N fb) : bw_Ci (S := bw_U) l yJ0_length_8abf5 (bw_ws (Cond.code yJ0_length_8abf5 cJ0_length_8abf5 1 (some .int))) rm_J0_length E G (bw_kt cI cB cJ cN cW) [.ref sa] [] (fun r _ => r = nI N) (fun _ => []) := by
  refine bw_Ci.of (cc := cJ0_length_8abf5) (maxL := 1) (ty := .int) (by decide) rfl (Nat.le_of_ble_eq_true rfl) ?_
  intro p e s m below meth c A Q hx hb hml hts hown hin hK hA hS hP hD hE ret ls hl
  have F : CallFix p m c cJ0_length_8abf5 1 s ([.ref sa] : List Value).toArray bw_T RJ0 := ⟨hx, hb, hml, hown, fun w h => hts w (List.mem_cons_of_mem _ h)⟩
  have hl : lv_has ls 1 [(0, .ref sa)] := hl
  refine lv_aload_n hx hb dJ0_length_8abf5_0 rfl (lv_at hl 0 rfl) ?_
  refine r_sget F (hT.2 _ _ hE).2.1.2.2.1 hS k_1739 dJ0_length_8abf5_1 ?_
  refine va_tlen (v := nI N) hx hb (hT.2 _ _ hE).2.1.2.2.2 hS rfl dJ0_length_8abf5_4 ?_
  refine lv_aload_n hx hb dJ0_length_8abf5_5 rfl (lv_at hl 0 rfl) ?_
  refine r_callR (As := []) (rest := [.int (nI N)]) F hK hP hD hS hA hO hE (c_J0_coder hO hT) k_216 kv_J0_coder_7d493 0 rfl (by decide +kernel) ⟨Nat.le_of_ble_eq_true rfl, Nat.le_of_ble_eq_true rfl⟩ [] rfl (by decide) (by obtain ⟨cell, h1, h2, h3, _⟩ := ((hT.2 _ _ hE).2.1.1).kept hS.2.1; exact ⟨cell, h1, h2, h3⟩) hl.1 rfl (Nat.le_of_ble_eq_true rfl) dJ0_length_8abf5_6 ⟨Nat.le_of_ble_eq_true rfl, Nat.le_of_ble_eq_true rfl⟩ (fun r1 u2 H locs hp hP hD hS => ?_)
  subst hp
  refine r_ishr (v := (nI N)) F dJ0_length_8abf5_9 (sb_shr0 _) ?_
  exact ret (nI N) (fun _ => 0, fun _ _ => 0) _ _ _ _ _ _ rfl rfl (bw_subP (isC := []) hP rfl) (hD.sub [] (by decide) rfl) hS (Nat.le_of_ble_eq_true rfl) (Nat.le_of_ble_eq_true rfl) dJ0_length_8abf5_10
theorem dJ3_checkIndex_8e157_0 : decode cJ3_checkIndex_8e157 0 = .ok (.iload_n 0, 1) := by decide +kernel
theorem dJ3_checkIndex_8e157_1 : decode cJ3_checkIndex_8e157 1 = .ok (.ifCond .lt 8, 3) := by decide +kernel
theorem dJ3_checkIndex_8e157_4 : decode cJ3_checkIndex_8e157 4 = .ok (.iload_n 0, 1) := by decide +kernel
theorem dJ3_checkIndex_8e157_5 : decode cJ3_checkIndex_8e157 5 = .ok (.iload_n 1, 1) := by decide +kernel
theorem dJ3_checkIndex_8e157_6 : decode cJ3_checkIndex_8e157 6 = .ok (.if_icmp .lt 10, 3) := by decide +kernel
theorem dJ3_checkIndex_8e157_16 : decode cJ3_checkIndex_8e157 16 = .ok (.iload_n 0, 1) := by decide +kernel
theorem dJ3_checkIndex_8e157_17 : decode cJ3_checkIndex_8e157 17 = .ok (.ireturn, 1) := by decide +kernel
abbrev rm_J3_checkIndex_n : Room := { frames := 0, cells := 0, slots := 0, locals := 0 }
set_option maxRecDepth 100000 in
set_option maxHeartbeats 4000000 in
theorem c_J3_checkIndex_n {l : Launch} {E : (Nat → Prop) → State → Prop} (hO : bw_Ok E) {G : va_G} {cI cB cJ cN cW : ClassId} (i n : Int32) (h0 : ¬ i < 0) (h1 : i < n) : bw_Ci (S := bw_U) l yJ3_checkIndex_8e157 (bw_ws (Cond.code yJ3_checkIndex_8e157 cJ3_checkIndex_8e157 3 (some .int))) rm_J3_checkIndex_n E G (bw_kt cI cB cJ cN cW) [.int i, .int n, .null] [] (fun _ _ => True) (fun _ => []) := by
  refine bw_Ci.of (cc := cJ3_checkIndex_8e157) (maxL := 3) (ty := .int) (by decide) rfl (Nat.le_of_ble_eq_true rfl) ?_
  intro p e s m below meth c A Q hx hb hml hts hown hin hK hA hS hP hD hE ret ls hl
  have F : CallFix p m c cJ3_checkIndex_8e157 3 s ([.int i, .int n, .null] : List Value).toArray bw_T RJ3 := ⟨hx, hb, hml, hown, fun w h => hts w (List.mem_cons_of_mem _ h)⟩
  have hl : lv_has ls 3 [(0, .int i), (1, .int n), (2, .null)] := hl
  refine lv_iload_n hx hb dJ3_checkIndex_8e157_0 rfl (lv_at hl 0 rfl) ?_
  refine lv_if_lt (tgt := 9) hx hb dJ3_checkIndex_8e157_1 (by decide) (fun h9 => absurd h9 h0) (fun _ => ?_)
  refine lv_iload_n hx hb dJ3_checkIndex_8e157_4 rfl (lv_at hl 0 rfl) ?_
  refine lv_iload_n hx hb dJ3_checkIndex_8e157_5 rfl (lv_at hl 1 rfl) ?_
  refine lv_icmp_lt (tgt := 16) hx hb dJ3_checkIndex_8e157_6 (by decide) (fun _ => ?_) (fun h9 => absurd h1 h9)
  refine lv_iload_n hx hb dJ3_checkIndex_8e157_16 rfl (lv_at hl 0 rfl) ?_
  exact ret i (fun _ => 0, fun _ _ => 0) _ _ _ _ _ _ rfl trivial (bw_subP (isC := []) hP rfl) (hD.sub [] (by decide) rfl) hS (Nat.le_of_ble_eq_true rfl) (Nat.le_of_ble_eq_true rfl) dJ3_checkIndex_8e157_17
abbrev rm_J3_checkIndex_r : Room := { frames := 0, cells := 0, slots := 0, locals := 0 }
set_option maxRecDepth 100000 in
set_option maxHeartbeats 4000000 in
theorem c_J3_checkIndex_r {l : Launch} {E : (Nat → Prop) → State → Prop} (hO : bw_Ok E) {G : va_G} {cI cB cJ cN cW : ClassId} (i n : Int32) (h0 : ¬ i < 0) (h1 : i < n) (t : Nat) : bw_Ci (S := bw_U) l yJ3_checkIndex_8e157 (bw_ws (Cond.code yJ3_checkIndex_8e157 cJ3_checkIndex_8e157 3 (some .int))) rm_J3_checkIndex_r E G (bw_kt cI cB cJ cN cW) [.int i, .int n, .ref t] [] (fun _ _ => True) (fun _ => []) := by
  refine bw_Ci.of (cc := cJ3_checkIndex_8e157) (maxL := 3) (ty := .int) (by decide) rfl (Nat.le_of_ble_eq_true rfl) ?_
  intro p e s m below meth c A Q hx hb hml hts hown hin hK hA hS hP hD hE ret ls hl
  have F : CallFix p m c cJ3_checkIndex_8e157 3 s ([.int i, .int n, .ref t] : List Value).toArray bw_T RJ3 := ⟨hx, hb, hml, hown, fun w h => hts w (List.mem_cons_of_mem _ h)⟩
  have hl : lv_has ls 3 [(0, .int i), (1, .int n), (2, .ref t)] := hl
  refine lv_iload_n hx hb dJ3_checkIndex_8e157_0 rfl (lv_at hl 0 rfl) ?_
  refine lv_if_lt (tgt := 9) hx hb dJ3_checkIndex_8e157_1 (by decide) (fun h9 => absurd h9 h0) (fun _ => ?_)
  refine lv_iload_n hx hb dJ3_checkIndex_8e157_4 rfl (lv_at hl 0 rfl) ?_
  refine lv_iload_n hx hb dJ3_checkIndex_8e157_5 rfl (lv_at hl 1 rfl) ?_
  refine lv_icmp_lt (tgt := 16) hx hb dJ3_checkIndex_8e157_6 (by decide) (fun _ => ?_) (fun h9 => absurd h1 h9)
  refine lv_iload_n hx hb dJ3_checkIndex_8e157_16 rfl (lv_at hl 0 rfl) ?_
  exact ret i (fun _ => 0, fun _ _ => 0) _ _ _ _ _ _ rfl trivial (bw_subP (isC := []) hP rfl) (hD.sub [] (by decide) rfl) hS (Nat.le_of_ble_eq_true rfl) (Nat.le_of_ble_eq_true rfl) dJ3_checkIndex_8e157_17
theorem dJ0_checkIndex_df160_0 : decode cJ0_checkIndex_df160 0 = .ok (.iload_n 0, 1) := by decide +kernel
theorem dJ0_checkIndex_df160_1 : decode cJ0_checkIndex_df160 1 = .ok (.iload_n 1, 1) := by decide +kernel
theorem dJ0_checkIndex_df160_2 : decode cJ0_checkIndex_df160 2 = .ok (.getstatic 1053, 3) := by decide +kernel
theorem dJ0_checkIndex_df160_5 : decode cJ0_checkIndex_df160 5 = .ok (.invokestatic 1059, 3) := by decide +kernel
theorem dJ0_checkIndex_df160_8 : decode cJ0_checkIndex_df160 8 = .ok (.pop, 1) := by decide +kernel
theorem dJ0_checkIndex_df160_9 : decode cJ0_checkIndex_df160 9 = .ok (.return_, 1) := by decide +kernel
theorem k_236 : Cond.fieldLink RJ0 1053 "jdk/internal/util/Preconditions" "SIOOBE_FORMATTER" "Ljava/util/function/BiFunction;" ∈ bw_T := bw_m 236 (by decide +kernel) rfl
theorem k_238 : Cond.methodLink RJ0 1059 yJ3_checkIndex_8e157 ∈ bw_T := bw_m 238 (by decide +kernel) rfl
theorem ks_J3_checkIndex_8e157 : bw_KS RJ3 yJ3_checkIndex_8e157 (Cond.code yJ3_checkIndex_8e157 cJ3_checkIndex_8e157 3 (some .int)) := ⟨bw_m 239 (by decide +kernel) rfl, bw_m 100 (by decide +kernel) rfl, bw_m 240 (by decide +kernel) rfl⟩
abbrev rm_J0_checkIndex : Room := { frames := 1, cells := 0, slots := 0, locals := 22 }
set_option maxRecDepth 100000 in
set_option maxHeartbeats 4000000 in
theorem c_J0_checkIndex {l : Launch} {E : (Nat → Prop) → State → Prop} (hO : bw_Ok E) {G : va_G} {cI cB cJ cN cW : ClassId} {sa va N : Nat} {fb : Nat → Int32} (hT : bw_Text E sa va N fb) (i n : Int32) (h0 : ¬ i < 0) (h1 : i < n) : bw_Cv (S := bw_U) l yJ0_checkIndex_df160 (bw_ws (Cond.code yJ0_checkIndex_df160 cJ0_checkIndex_df160 2 none)) rm_J0_checkIndex E G (bw_kt cI cB cJ cN cW) [.int i, .int n] [] (fun _ => True) (fun _ => []) := by
  refine bw_Cv.of (cc := cJ0_checkIndex_df160) (maxL := 2) (by decide) rfl (Nat.le_of_ble_eq_true rfl) ?_
  intro p e s m below meth c A Q hx hb hml hts hown hin hK hA hS hP hD hE ret ls hl
  have F : CallFix p m c cJ0_checkIndex_df160 2 s ([.int i, .int n] : List Value).toArray bw_T RJ0 := ⟨hx, hb, hml, hown, fun w h => hts w (List.mem_cons_of_mem _ h)⟩
  have hl : lv_has ls 2 [(0, .int i), (1, .int n)] := hl
  rcases (hT.2 _ _ hE).2.2.2 with hz | ⟨t, hz⟩
  · refine lv_iload_n hx hb dJ0_checkIndex_df160_0 rfl (lv_at hl 0 rfl) ?_
    refine lv_iload_n hx hb dJ0_checkIndex_df160_1 rfl (lv_at hl 1 rfl) ?_
    refine r_gets F hz hS k_236 dJ0_checkIndex_df160_2 ?_
    refine r_callXi (As := [.int i, .int n, .null]) (rest := []) F hK hP hD hS hA hO hE (c_J3_checkIndex_n hO i n h0 h1) k_238 ks_J3_checkIndex_8e157 3 rfl (by decide +kernel) ⟨Nat.le_of_ble_eq_true rfl, Nat.le_of_ble_eq_true rfl⟩ [] rfl (by decide) hl.1 rfl (Nat.le_of_ble_eq_true rfl) dJ0_checkIndex_df160_5 ⟨Nat.le_of_ble_eq_true rfl, Nat.le_of_ble_eq_true rfl⟩ (fun r1 u2 H locs hp hP hD hS => ?_)
    refine lv_pop hx hb dJ0_checkIndex_df160_8 rfl ?_
    exact ret (fun _ => 0, fun _ _ => 0) _ _ _ _ _ _ trivial (bw_subP (isC := []) hP rfl) (hD.sub [] (by decide) rfl) hS (Nat.le_of_ble_eq_true rfl) (Nat.le_of_ble_eq_true rfl) dJ0_checkIndex_df160_9
  · refine lv_iload_n hx hb dJ0_checkIndex_df160_0 rfl (lv_at hl 0 rfl) ?_
    refine lv_iload_n hx hb dJ0_checkIndex_df160_1 rfl (lv_at hl 1 rfl) ?_
    refine r_gets F hz hS k_236 dJ0_checkIndex_df160_2 ?_
    refine r_callXi (As := [.int i, .int n, .ref t]) (rest := []) F hK hP hD hS hA hO hE (c_J3_checkIndex_r hO i n h0 h1 t) k_238 ks_J3_checkIndex_8e157 3 rfl (by decide +kernel) ⟨Nat.le_of_ble_eq_true rfl, Nat.le_of_ble_eq_true rfl⟩ [] rfl (by decide) hl.1 rfl (Nat.le_of_ble_eq_true rfl) dJ0_checkIndex_df160_5 ⟨Nat.le_of_ble_eq_true rfl, Nat.le_of_ble_eq_true rfl⟩ (fun r1 u2 H locs hp hP hD hS => ?_)
    refine lv_pop hx hb dJ0_checkIndex_df160_8 rfl ?_
    exact ret (fun _ => 0, fun _ _ => 0) _ _ _ _ _ _ trivial (bw_subP (isC := []) hP rfl) (hD.sub [] (by decide) rfl) hS (Nat.le_of_ble_eq_true rfl) (Nat.le_of_ble_eq_true rfl) dJ0_checkIndex_df160_9
theorem dJ1_charAt_3b067_0 : decode cJ1_charAt_3b067 0 = .ok (.iload_n 1, 1) := by decide +kernel
theorem dJ1_charAt_3b067_1 : decode cJ1_charAt_3b067 1 = .ok (.aload_n 0, 1) := by decide +kernel
theorem dJ1_charAt_3b067_2 : decode cJ1_charAt_3b067 2 = .ok (.arraylength, 1) := by decide +kernel
theorem dJ1_charAt_3b067_3 : decode cJ1_charAt_3b067 3 = .ok (.invokestatic 9, 3) := by decide +kernel
theorem k_233 : Cond.methodLink RJ1 9 yJ0_checkIndex_df160 ∈ bw_T := bw_m 233 (by decide +kernel) rfl
theorem ks_J0_checkIndex_df160 : bw_KS RJ0 yJ0_checkIndex_df160 (Cond.code yJ0_checkIndex_df160 cJ0_checkIndex_df160 2 none) := ⟨bw_m 234 (by decide +kernel) rfl, bw_m 98 (by decide +kernel) rfl, bw_m 235 (by decide +kernel) rfl⟩
theorem dJ1_charAt_3b067_6 : decode cJ1_charAt_3b067 6 = .ok (.aload_n 0, 1) := by decide +kernel
theorem dJ1_charAt_3b067_7 : decode cJ1_charAt_3b067 7 = .ok (.iload_n 1, 1) := by decide +kernel
theorem dJ1_charAt_3b067_8 : decode cJ1_charAt_3b067 8 = .ok (.baload, 1) := by decide +kernel
theorem dJ1_charAt_3b067_9 : decode cJ1_charAt_3b067 9 = .ok (.sipush 255, 3) := by decide +kernel
theorem dJ1_charAt_3b067_12 : decode cJ1_charAt_3b067 12 = .ok (.iand, 1) := by decide +kernel
theorem dJ1_charAt_3b067_13 : decode cJ1_charAt_3b067 13 = .ok (.i2c, 1) := by decide +kernel
theorem dJ1_charAt_3b067_14 : decode cJ1_charAt_3b067 14 = .ok (.ireturn, 1) := by decide +kernel
abbrev rm_J1_charAt : Room := { frames := 2, cells := 0, slots := 0, locals := 43 }
set_option maxRecDepth 100000 in
set_option maxHeartbeats 4000000 in
theorem c_J1_charAt {l : Launch} {E : (Nat → Prop) → State → Prop} (hO : bw_Ok E) {G : va_G} {cI cB cJ cN cW : ClassId} {sa va N : Nat} {fb : Nat → Int32} (hT : bw_Text E sa va N fb) (i : Int32) (h0 : ¬ i < 0) (h1 : i < nI N) : bw_Ci (S := bw_U) l yJ1_charAt_3b067 (bw_ws (Cond.code yJ1_charAt_3b067 cJ1_charAt_3b067 2 (some .char))) rm_J1_charAt E G (bw_kt cI cB cJ cN cW) [.ref va, .int i] [] (fun r _ => narrow .char (.int r) = .int r) (fun _ => []) := by
  refine bw_Ci.of (cc := cJ1_charAt_3b067) (maxL := 2) (ty := .char) (by decide) rfl (Nat.le_of_ble_eq_true rfl) ?_
  intro p e s m below meth c A Q hx hb hml hts hown hin hK hA hS hP hD hE ret ls hl
  have F : CallFix p m c cJ1_charAt_3b067 2 s ([.ref va, .int i] : List Value).toArray bw_T RJ1 := ⟨hx, hb, hml, hown, fun w h => hts w (List.mem_cons_of_mem _ h)⟩
  have hl : lv_has ls 2 [(0, .ref va), (1, .int i)] := hl
  have hin9 : vp_in i N := bw_inlt hT.1 h0 h1
  refine lv_iload_n hx hb dJ1_charAt_3b067_0 rfl (lv_at hl 1 rfl) ?_
  refine lv_aload_n hx hb dJ1_charAt_3b067_1 rfl (lv_at hl 0 rfl) ?_
  refine va_tlen (v := nI N) hx hb (hT.2 _ _ hE).2.1.2.2.2 hS rfl dJ1_charAt_3b067_2 ?_
  refine r_callXv (As := [.int i, .int (nI N)]) (rest := []) F hK hP hD hS hA hO hE (c_J0_checkIndex hO hT i (nI N) h0 h1) k_233 ks_J0_checkIndex_df160 2 rfl (by decide +kernel) ⟨Nat.le_of_ble_eq_true rfl, Nat.le_of_ble_eq_true rfl⟩ [] rfl (by decide) hl.1 rfl (Nat.le_of_ble_eq_true rfl) dJ1_charAt_3b067_3 ⟨Nat.le_of_ble_eq_true rfl, Nat.le_of_ble_eq_true rfl⟩ (fun  u1 H locs hp hP hD hS => ?_)
  refine lv_aload_n hx hb dJ1_charAt_3b067_6 rfl (lv_at hl 0 rfl) ?_
  refine lv_iload_n hx hb dJ1_charAt_3b067_7 rfl (lv_at hl 1 rfl) ?_
  refine va_tb hx hb (hT.2 _ _ hE).2.1.2.2.2 hS hin9 rfl dJ1_charAt_3b067_8 ?_
  refine lv_sipush (v := 255) hx hb dJ1_charAt_3b067_9 (by decide) ?_
  refine r_iand (v := ((fb i.toNatClampNeg) &&& 255)) F dJ1_charAt_3b067_12 rfl ?_
  refine lv_i2c (v := ((((fb i.toNatClampNeg) &&& 255)).toUInt32 % 65536).toInt32) hx hb dJ1_charAt_3b067_13 rfl ?_
  exact ret _ (fun _ => 0, fun _ _ => 0) _ _ _ _ _ _ (pk_nc _) (pk_nc _) (bw_subP (isC := []) hP rfl) (hD.sub [] (by decide) rfl) hS (Nat.le_of_ble_eq_true rfl) (Nat.le_of_ble_eq_true rfl) dJ1_charAt_3b067_14
theorem dJ0_charAt_5068e_0 : decode cJ0_charAt_5068e 0 = .ok (.aload_n 0, 1) := by decide +kernel
theorem dJ0_charAt_5068e_1 : decode cJ0_charAt_5068e 1 = .ok (.invokevirtual 492, 3) := by decide +kernel
theorem k_226 : Cond.methodLink RJ0 492 yJ0_isLatin1_aae02 ∈ bw_T := bw_m 226 (by decide +kernel) rfl
theorem kv_J0_isLatin1_aae02 : bw_KV RJ0 yJ0_isLatin1_aae02 (Cond.code yJ0_isLatin1_aae02 cJ0_isLatin1_aae02 1 (some .boolean)) := ⟨bw_m 227 (by decide +kernel) rfl, bw_m 228 (by decide +kernel) rfl, bw_m 98 (by decide +kernel) rfl, bw_m 229 (by decide +kernel) rfl⟩
theorem dJ0_charAt_5068e_4 : decode cJ0_charAt_5068e 4 = .ok (.ifCond .eq 12, 3) := by decide +kernel
theorem dJ0_charAt_5068e_7 : decode cJ0_charAt_5068e 7 = .ok (.aload_n 0, 1) := by decide +kernel
theorem dJ0_charAt_5068e_8 : decode cJ0_charAt_5068e 8 = .ok (.getfield 9, 3) := by decide +kernel
theorem dJ0_charAt_5068e_11 : decode cJ0_charAt_5068e 11 = .ok (.iload_n 1, 1) := by decide +kernel
theorem dJ0_charAt_5068e_12 : decode cJ0_charAt_5068e 12 = .ok (.invokestatic 495, 3) := by decide +kernel
theorem k_230 : Cond.methodLink RJ0 495 yJ1_charAt_3b067 ∈ bw_T := bw_m 230 (by decide +kernel) rfl
theorem ks_J1_charAt_3b067 : bw_KS RJ1 yJ1_charAt_3b067 (Cond.code yJ1_charAt_3b067 cJ1_charAt_3b067 2 (some .char)) := ⟨bw_m 231 (by decide +kernel) rfl, bw_m 99 (by decide +kernel) rfl, bw_m 232 (by decide +kernel) rfl⟩
theorem dJ0_charAt_5068e_15 : decode cJ0_charAt_5068e 15 = .ok (.ireturn, 1) := by decide +kernel
abbrev rm_J0_charAt : Room := { frames := 3, cells := 0, slots := 0, locals := 64 }
set_option maxRecDepth 100000 in
set_option maxHeartbeats 4000000 in
theorem c_J0_charAt {l : Launch} {E : (Nat → Prop) → State → Prop} (hO : bw_Ok E) {G : va_G} {cI cB cJ cN cW : ClassId} {sa va N : Nat} {fb : Nat → Int32} (hT : bw_Text E sa va N fb) (i : Int32) (h0 : ¬ i < 0) (h1 : i < nI N) : bw_Ci (S := bw_U) l yJ0_charAt_5068e (bw_ws (Cond.code yJ0_charAt_5068e cJ0_charAt_5068e 2 (some .char))) rm_J0_charAt E G (bw_kt cI cB cJ cN cW) [.ref sa, .int i] [] (fun r _ => narrow .char (.int r) = .int r) (fun _ => []) := by
  refine bw_Ci.of (cc := cJ0_charAt_5068e) (maxL := 2) (ty := .char) (by decide) rfl (Nat.le_of_ble_eq_true rfl) ?_
  intro p e s m below meth c A Q hx hb hml hts hown hin hK hA hS hP hD hE ret ls hl
  have F : CallFix p m c cJ0_charAt_5068e 2 s ([.ref sa, .int i] : List Value).toArray bw_T RJ0 := ⟨hx, hb, hml, hown, fun w h => hts w (List.mem_cons_of_mem _ h)⟩
  have hl : lv_has ls 2 [(0, .ref sa), (1, .int i)] := hl
  refine lv_aload_n hx hb dJ0_charAt_5068e_0 rfl (lv_at hl 0 rfl) ?_
  refine r_callR (As := []) (rest := []) F hK hP hD hS hA hO hE (c_J0_isLatin1 hO hT) k_226 kv_J0_isLatin1_aae02 0 rfl (by decide +kernel) ⟨Nat.le_of_ble_eq_true rfl, Nat.le_of_ble_eq_true rfl⟩ [] rfl (by decide) (by obtain ⟨cell, h1, h2, h3, _⟩ := ((hT.2 _ _ hE).2.1.1).kept hS.2.1; exact ⟨cell, h1, h2, h3⟩) hl.1 rfl (Nat.le_of_ble_eq_true rfl) dJ0_charAt_5068e_1 ⟨Nat.le_of_ble_eq_true rfl, Nat.le_of_ble_eq_true rfl⟩ (fun r1 u2 H locs hp hP hD hS => ?_)
  subst hp
  refine lv_if_eq (tgt := 16) hx hb dJ0_charAt_5068e_4 (by decide) (fun h9 => absurd h9 (by decide)) (fun _ => ?_)
  refine lv_aload_n hx hb dJ0_charAt_5068e_7 rfl (lv_at hl 0 rfl) ?_
  refine r_sget F (hT.2 _ _ hE).2.1.2.2.1 hS k_1739 dJ0_charAt_5068e_8 ?_
  refine lv_iload_n hx hb dJ0_charAt_5068e_11 rfl (lv_at hl 1 rfl) ?_
  refine r_callXi (As := [.ref va, .int i]) (rest := []) F hK hP hD hS hA hO hE (c_J1_charAt hO hT i h0 h1) k_230 ks_J1_charAt_3b067 2 rfl (by decide +kernel) ⟨Nat.le_of_ble_eq_true rfl, Nat.le_of_ble_eq_true rfl⟩ [] rfl (by decide) hl.1 rfl (Nat.le_of_ble_eq_true rfl) dJ0_charAt_5068e_12 ⟨Nat.le_of_ble_eq_true rfl, Nat.le_of_ble_eq_true rfl⟩ (fun r3 u4 H locs hp hP hD hS => ?_)
  exact ret _ (fun _ => 0, fun _ _ => 0) _ _ _ _ _ _ hp hp (bw_subP (isC := []) hP rfl) (hD.sub [] (by decide) rfl) hS (Nat.le_of_ble_eq_true rfl) (Nat.le_of_ble_eq_true rfl) dJ0_charAt_5068e_15
end
section
theorem dX4_init_0 : decode cX4_init 0 = .ok (.aload_n 0, 1) := by decide +kernel
theorem dX4_init_1 : decode cX4_init 1 = .ok (.invokespecial 3, 3) := by decide +kernel
theorem k_367 : Cond.methodLink RX4 3 Lib.objectInit ∈ bw_T := bw_m 367 (by decide +kernel) rfl
theorem dX4_init_4 : decode cX4_init 4 = .ok (.aload_n 0, 1) := by decide +kernel
theorem dX4_init_5 : decode cX4_init 5 = .ok (.iconst (-1), 1) := by decide +kernel
theorem dX4_init_6 : decode cX4_init 6 = .ok (.putfield 9, 3) := by decide +kernel
theorem k_370 : Cond.fieldLink RX4 9 "BurntWays$Survey" "bound" "I" ∈ bw_T := bw_m 370 (by decide +kernel) rfl
theorem in_X4 : ∀ w ∈ wsX40, w ∈ bw_T := bw_ms _ [393, 395, 397, 399, 401, 403, 405, 407, 409, 411, 413, 415, 417] (by decide +kernel) (by decide +kernel)
theorem dX4_init_9 : decode cX4_init 9 = .ok (.aload_n 0, 1) := by decide +kernel
theorem dX4_init_10 : decode cX4_init 10 = .ok (.iconst 0, 1) := by decide +kernel
theorem dX4_init_11 : decode cX4_init 11 = .ok (.putfield 15, 3) := by decide +kernel
theorem k_372 : Cond.fieldLink RX4 15 "BurntWays$Survey" "inputs" "I" ∈ bw_T := bw_m 372 (by decide +kernel) rfl
theorem dX4_init_14 : decode cX4_init 14 = .ok (.aload_n 0, 1) := by decide +kernel
theorem dX4_init_15 : decode cX4_init 15 = .ok (.iconst 0, 1) := by decide +kernel
theorem dX4_init_16 : decode cX4_init 16 = .ok (.putfield 18, 3) := by decide +kernel
theorem k_373 : Cond.fieldLink RX4 18 "BurntWays$Survey" "mustWays" "I" ∈ bw_T := bw_m 373 (by decide +kernel) rfl
theorem dX4_init_19 : decode cX4_init 19 = .ok (.aload_n 0, 1) := by decide +kernel
theorem dX4_init_20 : decode cX4_init 20 = .ok (.iconst 0, 1) := by decide +kernel
theorem dX4_init_21 : decode cX4_init 21 = .ok (.putfield 21, 3) := by decide +kernel
theorem k_375 : Cond.fieldLink RX4 21 "BurntWays$Survey" "untakenWays" "I" ∈ bw_T := bw_m 375 (by decide +kernel) rfl
theorem dX4_init_24 : decode cX4_init 24 = .ok (.aload_n 0, 1) := by decide +kernel
theorem dX4_init_25 : decode cX4_init 25 = .ok (.bipush (-2), 2) := by decide +kernel
theorem dX4_init_27 : decode cX4_init 27 = .ok (.putfield 24, 3) := by decide +kernel
theorem k_377 : Cond.fieldLink RX4 24 "BurntWays$Survey" "wholeInput" "I" ∈ bw_T := bw_m 377 (by decide +kernel) rfl
theorem dX4_init_30 : decode cX4_init 30 = .ok (.aload_n 0, 1) := by decide +kernel
theorem dX4_init_31 : decode cX4_init 31 = .ok (.iconst (-1), 1) := by decide +kernel
theorem dX4_init_32 : decode cX4_init 32 = .ok (.putfield 27, 3) := by decide +kernel
theorem k_379 : Cond.fieldLink RX4 27 "BurntWays$Survey" "longestSteps" "I" ∈ bw_T := bw_m 379 (by decide +kernel) rfl
theorem dX4_init_35 : decode cX4_init 35 = .ok (.aload_n 0, 1) := by decide +kernel
theorem dX4_init_36 : decode cX4_init 36 = .ok (.iconst 0, 1) := by decide +kernel
theorem dX4_init_37 : decode cX4_init 37 = .ok (.putfield 30, 3) := by decide +kernel
theorem k_381 : Cond.fieldLink RX4 30 "BurntWays$Survey" "longestInput" "I" ∈ bw_T := bw_m 381 (by decide +kernel) rfl
theorem dX4_init_40 : decode cX4_init 40 = .ok (.aload_n 0, 1) := by decide +kernel
theorem dX4_init_41 : decode cX4_init 41 = .ok (.iconst 0, 1) := by decide +kernel
theorem dX4_init_42 : decode cX4_init 42 = .ok (.putfield 33, 3) := by decide +kernel
theorem k_383 : Cond.fieldLink RX4 33 "BurntWays$Survey" "seenLines" "I" ∈ bw_T := bw_m 383 (by decide +kernel) rfl
theorem dX4_init_45 : decode cX4_init 45 = .ok (.aload_n 0, 1) := by decide +kernel
theorem dX4_init_46 : decode cX4_init 46 = .ok (.iconst 4, 1) := by decide +kernel
theorem dX4_init_47 : decode cX4_init 47 = .ok (.newarray .int, 2) := by decide +kernel
theorem dX4_init_49 : decode cX4_init 49 = .ok (.putfield 36, 3) := by decide +kernel
theorem k_385 : Cond.fieldLink RX4 36 "BurntWays$Survey" "endings" "[I" ∈ bw_T := bw_m 385 (by decide +kernel) rfl
theorem dX4_init_52 : decode cX4_init 52 = .ok (.aload_n 0, 1) := by decide +kernel
theorem dX4_init_53 : decode cX4_init 53 = .ok (.bipush 10, 2) := by decide +kernel
theorem dX4_init_55 : decode cX4_init 55 = .ok (.newarray .int, 2) := by decide +kernel
theorem dX4_init_57 : decode cX4_init 57 = .ok (.putfield 40, 3) := by decide +kernel
theorem k_387 : Cond.fieldLink RX4 40 "BurntWays$Survey" "firstInputs" "[I" ∈ bw_T := bw_m 387 (by decide +kernel) rfl
theorem dX4_init_60 : decode cX4_init 60 = .ok (.aload_n 0, 1) := by decide +kernel
theorem dX4_init_61 : decode cX4_init 61 = .ok (.bipush 20, 2) := by decide +kernel
theorem dX4_init_63 : decode cX4_init 63 = .ok (.newarray .int, 2) := by decide +kernel
theorem dX4_init_65 : decode cX4_init 65 = .ok (.putfield 43, 3) := by decide +kernel
theorem k_389 : Cond.fieldLink RX4 43 "BurntWays$Survey" "mostTaken" "[I" ∈ bw_T := bw_m 389 (by decide +kernel) rfl
theorem dX4_init_68 : decode cX4_init 68 = .ok (.aload_n 0, 1) := by decide +kernel
theorem dX4_init_69 : decode cX4_init 69 = .ok (.sipush 256, 3) := by decide +kernel
theorem dX4_init_72 : decode cX4_init 72 = .ok (.newarray .int, 2) := by decide +kernel
theorem dX4_init_74 : decode cX4_init 74 = .ok (.putfield 46, 3) := by decide +kernel
theorem k_391 : Cond.fieldLink RX4 46 "BurntWays$Survey" "endingOf" "[I" ∈ bw_T := bw_m 391 (by decide +kernel) rfl
theorem dX4_init_77 : decode cX4_init 77 = .ok (.aload_n 0, 1) := by decide +kernel
theorem dX4_init_78 : decode cX4_init 78 = .ok (.new 49, 3) := by decide +kernel
theorem k_368 : Cond.classLink RX4 49 RX6 ∈ bw_T := bw_m 368 (by decide +kernel) rfl
theorem k_315 : Cond.instantiable RX6 10 ∈ bw_T := bw_m 315 (by decide +kernel) rfl
theorem k_102 : Cond.initialized RX6 ∈ bw_T := bw_m 102 (by decide +kernel) rfl
theorem dX4_init_81 : decode cX4_init 81 = .ok (.dup, 1) := by decide +kernel
theorem dX4_init_82 : decode cX4_init 82 = .ok (.invokespecial 51, 3) := by decide +kernel
theorem ki_X6_init : bw_KI RX6 yX6_init (Cond.code yX6_init cX6_init 1 none) := ⟨bw_m 317 (by decide +kernel) rfl, bw_m 102 (by decide +kernel) rfl, bw_m 318 (by decide +kernel) rfl⟩
theorem dX4_init_85 : decode cX4_init 85 = .ok (.putfield 52, 3) := by decide +kernel
theorem k_392 : Cond.fieldLink RX4 52 "BurntWays$Survey" "walk" "LBurntWays$Walk;" ∈ bw_T := bw_m 392 (by decide +kernel) rfl
theorem dX4_init_88 : decode cX4_init 88 = .ok (.return_, 1) := by decide +kernel
abbrev rm_X4_init : Room := { frames := 2, cells := 9, slots := 444, locals := 32 }
set_option maxRecDepth 100000 in
set_option maxHeartbeats 4000000 in
theorem c_X4_init {l : Launch} {E : (Nat → Prop) → State → Prop} (hO : bw_Ok E) {G : va_G} {cI cB cJ cN cW : ClassId} (hN : bw_Nests E) (b : Nat) : bw_Cv (S := bw_U) l yX4_init (bw_ws (Cond.code yX4_init cX4_init 1 none)) rm_X4_init E G (bw_kt cI cB cJ cN cW) [.ref b] [(b, .inr (4, [.int 0, .int 0, .int 0, .int 0, .int 0, .int 0, .int 0, .int 0, .null, .null, .null, .null, .null]))] (fun _ => True) (fun _ => []) := by
  refine bw_Cv.of (cc := cX4_init) (maxL := 1) (by decide) rfl (Nat.le_of_ble_eq_true rfl) ?_
  intro p e s m below meth c A Q hx hb hml hts hown hin hK hA hS hP hD hE ret ls hl
  have F : CallFix p m c cX4_init 1 s ([.ref b] : List Value).toArray bw_T RX4 := ⟨hx, hb, hml, hown, fun w h => hts w (List.mem_cons_of_mem _ h)⟩
  have hl : lv_has ls 1 [(0, .ref b)] := hl
  refine lv_aload_n hx hb dX4_init_0 rfl (lv_at hl 0 rfl) ?_
  refine r_objInit F k_367 k_oi k_oc hl.1 dX4_init_1 (Nat.le_of_ble_eq_true rfl) (Nat.le_of_ble_eq_true rfl) ?_
  refine lv_aload_n hx hb dX4_init_4 rfl (lv_at hl 0 rfl) ?_
  refine lv_iconst (v := (-1)) hx hb dX4_init_5 (by decide) ?_
  refine r_put F hK hP hD hS 0 0 rfl rfl in_X4 tyX4 tyX4_ok nmX4 (by decide) k_370 rfl rfl rfl (Nat.le_of_ble_eq_true rfl) dX4_init_6 (w1 := [(b, .inr (4, [.int (-1), .int 0, .int 0, .int 0, .int 0, .int 0, .int 0, .int 0, .null, .null, .null, .null, .null]))]) rfl (fun H locs hP hD hS => ?_)
  refine lv_aload_n hx hb dX4_init_9 rfl (lv_at hl 0 rfl) ?_
  refine lv_iconst (v := 0) hx hb dX4_init_10 (by decide) ?_
  refine r_put F hK hP hD hS 0 1 rfl rfl in_X4 tyX4 tyX4_ok nmX4 (by decide) k_372 rfl rfl rfl (Nat.le_of_ble_eq_true rfl) dX4_init_11 (w1 := [(b, .inr (4, [.int (-1), .int 0, .int 0, .int 0, .int 0, .int 0, .int 0, .int 0, .null, .null, .null, .null, .null]))]) rfl (fun H locs hP hD hS => ?_)
  refine lv_aload_n hx hb dX4_init_14 rfl (lv_at hl 0 rfl) ?_
  refine lv_iconst (v := 0) hx hb dX4_init_15 (by decide) ?_
  refine r_put F hK hP hD hS 0 2 rfl rfl in_X4 tyX4 tyX4_ok nmX4 (by decide) k_373 rfl rfl rfl (Nat.le_of_ble_eq_true rfl) dX4_init_16 (w1 := [(b, .inr (4, [.int (-1), .int 0, .int 0, .int 0, .int 0, .int 0, .int 0, .int 0, .null, .null, .null, .null, .null]))]) rfl (fun H locs hP hD hS => ?_)
  refine lv_aload_n hx hb dX4_init_19 rfl (lv_at hl 0 rfl) ?_
  refine lv_iconst (v := 0) hx hb dX4_init_20 (by decide) ?_
  refine r_put F hK hP hD hS 0 3 rfl rfl in_X4 tyX4 tyX4_ok nmX4 (by decide) k_375 rfl rfl rfl (Nat.le_of_ble_eq_true rfl) dX4_init_21 (w1 := [(b, .inr (4, [.int (-1), .int 0, .int 0, .int 0, .int 0, .int 0, .int 0, .int 0, .null, .null, .null, .null, .null]))]) rfl (fun H locs hP hD hS => ?_)
  refine lv_aload_n hx hb dX4_init_24 rfl (lv_at hl 0 rfl) ?_
  refine lv_bipush (v := (-2)) hx hb dX4_init_25 (by decide) ?_
  refine r_put F hK hP hD hS 0 4 rfl rfl in_X4 tyX4 tyX4_ok nmX4 (by decide) k_377 rfl rfl rfl (Nat.le_of_ble_eq_true rfl) dX4_init_27 (w1 := [(b, .inr (4, [.int (-1), .int 0, .int 0, .int 0, .int (-2), .int 0, .int 0, .int 0, .null, .null, .null, .null, .null]))]) rfl (fun H locs hP hD hS => ?_)
  refine lv_aload_n hx hb dX4_init_30 rfl (lv_at hl 0 rfl) ?_
  refine lv_iconst (v := (-1)) hx hb dX4_init_31 (by decide) ?_
  refine r_put F hK hP hD hS 0 5 rfl rfl in_X4 tyX4 tyX4_ok nmX4 (by decide) k_379 rfl rfl rfl (Nat.le_of_ble_eq_true rfl) dX4_init_32 (w1 := [(b, .inr (4, [.int (-1), .int 0, .int 0, .int 0, .int (-2), .int (-1), .int 0, .int 0, .null, .null, .null, .null, .null]))]) rfl (fun H locs hP hD hS => ?_)
  refine lv_aload_n hx hb dX4_init_35 rfl (lv_at hl 0 rfl) ?_
  refine lv_iconst (v := 0) hx hb dX4_init_36 (by decide) ?_
  refine r_put F hK hP hD hS 0 6 rfl rfl in_X4 tyX4 tyX4_ok nmX4 (by decide) k_381 rfl rfl rfl (Nat.le_of_ble_eq_true rfl) dX4_init_37 (w1 := [(b, .inr (4, [.int (-1), .int 0, .int 0, .int 0, .int (-2), .int (-1), .int 0, .int 0, .null, .null, .null, .null, .null]))]) rfl (fun H locs hP hD hS => ?_)
  refine lv_aload_n hx hb dX4_init_40 rfl (lv_at hl 0 rfl) ?_
  refine lv_iconst (v := 0) hx hb dX4_init_41 (by decide) ?_
  refine r_put F hK hP hD hS 0 7 rfl rfl in_X4 tyX4 tyX4_ok nmX4 (by decide) k_383 rfl rfl rfl (Nat.le_of_ble_eq_true rfl) dX4_init_42 (w1 := [(b, .inr (4, [.int (-1), .int 0, .int 0, .int 0, .int (-2), .int (-1), .int 0, .int 0, .null, .null, .null, .null, .null]))]) rfl (fun H locs hP hD hS => ?_)
  refine lv_aload_n hx hb dX4_init_45 rfl (lv_at hl 0 rfl) ?_
  refine lv_iconst (v := 4) hx hb dX4_init_46 (by decide) ?_
  refine r_newa (atype := .int) (ty := .int) F rfl k_194 hK hP hD hS hA 0 rfl 4 (4, .inl (fun _ => 0)) (bw_cI 4) (by decide) (by decide) (bw_by (k := 4) rfl (by omega)) (Nat.le_of_ble_eq_true rfl) (Nat.le_of_ble_eq_true rfl) dX4_init_47 (w1 := fun q1 => [(b, .inr (4, [.int (-1), .int 0, .int 0, .int 0, .int (-2), .int (-1), .int 0, .int 0, .null, .null, .null, .null, .null])), (q1, .inl (cI, 4, .inl (fun _ => 0)))]) (fun _ => rfl) (fun q1 H hP hD hS => ?_)
  refine r_putF F hK hP hD hS 0 8 rfl rfl in_X4 tyX4 tyX4_ok nmX4 (by decide) k_385 rfl hin rfl rfl rfl (Nat.le_of_ble_eq_true rfl) dX4_init_49 (w1 := [(b, .inr (4, [.int (-1), .int 0, .int 0, .int 0, .int (-2), .int (-1), .int 0, .int 0, .ref q1, .null, .null, .null, .null])), (q1, .inl (cI, 4, .inl (fun _ => 0)))]) rfl (fun H locs hP hD hS => ?_)
  refine lv_aload_n hx hb dX4_init_52 rfl (lv_at hl 0 rfl) ?_
  refine lv_bipush (v := 10) hx hb dX4_init_53 (by decide) ?_
  refine r_newa (atype := .int) (ty := .int) F rfl k_194 hK hP hD hS hA 0 rfl 10 (10, .inl (fun _ => 0)) (bw_cI 10) (by decide) (by decide) (bw_by (k := 4) rfl (by omega)) (Nat.le_of_ble_eq_true rfl) (Nat.le_of_ble_eq_true rfl) dX4_init_55 (w1 := fun q2 => [(b, .inr (4, [.int (-1), .int 0, .int 0, .int 0, .int (-2), .int (-1), .int 0, .int 0, .ref q1, .null, .null, .null, .null])), (q1, .inl (cI, 4, .inl (fun _ => 0))), (q2, .inl (cI, 10, .inl (fun _ => 0)))]) (fun _ => rfl) (fun q2 H hP hD hS => ?_)
  refine r_putF F hK hP hD hS 0 9 rfl rfl in_X4 tyX4 tyX4_ok nmX4 (by decide) k_387 rfl hin rfl rfl rfl (Nat.le_of_ble_eq_true rfl) dX4_init_57 (w1 := [(b, .inr (4, [.int (-1), .int 0, .int 0, .int 0, .int (-2), .int (-1), .int 0, .int 0, .ref q1, .ref q2, .null, .null, .null])), (q1, .inl (cI, 4, .inl (fun _ => 0))), (q2, .inl (cI, 10, .inl (fun _ => 0)))]) rfl (fun H locs hP hD hS => ?_)
  refine lv_aload_n hx hb dX4_init_60 rfl (lv_at hl 0 rfl) ?_
  refine lv_bipush (v := 20) hx hb dX4_init_61 (by decide) ?_
  refine r_newa (atype := .int) (ty := .int) F rfl k_194 hK hP hD hS hA 0 rfl 20 (20, .inl (fun _ => 0)) (bw_cI 20) (by decide) (by decide) (bw_by (k := 4) rfl (by omega)) (Nat.le_of_ble_eq_true rfl) (Nat.le_of_ble_eq_true rfl) dX4_init_63 (w1 := fun q3 => [(b, .inr (4, [.int (-1), .int 0, .int 0, .int 0, .int (-2), .int (-1), .int 0, .int 0, .ref q1, .ref q2, .null, .null, .null])), (q1, .inl (cI, 4, .inl (fun _ => 0))), (q2, .inl (cI, 10, .inl (fun _ => 0))), (q3, .inl (cI, 20, .inl (fun _ => 0)))]) (fun _ => rfl) (fun q3 H hP hD hS => ?_)
  refine r_putF F hK hP hD hS 0 10 rfl rfl in_X4 tyX4 tyX4_ok nmX4 (by decide) k_389 rfl hin rfl rfl rfl (Nat.le_of_ble_eq_true rfl) dX4_init_65 (w1 := [(b, .inr (4, [.int (-1), .int 0, .int 0, .int 0, .int (-2), .int (-1), .int 0, .int 0, .ref q1, .ref q2, .ref q3, .null, .null])), (q1, .inl (cI, 4, .inl (fun _ => 0))), (q2, .inl (cI, 10, .inl (fun _ => 0))), (q3, .inl (cI, 20, .inl (fun _ => 0)))]) rfl (fun H locs hP hD hS => ?_)
  refine lv_aload_n hx hb dX4_init_68 rfl (lv_at hl 0 rfl) ?_
  refine lv_sipush (v := 256) hx hb dX4_init_69 (by decide) ?_
  refine r_newa (atype := .int) (ty := .int) F rfl k_194 hK hP hD hS hA 0 rfl 256 (256, .inl (fun _ => 0)) (bw_cI 256) (by decide) (by decide) (bw_by (k := 4) rfl (by omega)) (Nat.le_of_ble_eq_true rfl) (Nat.le_of_ble_eq_true rfl) dX4_init_72 (w1 := fun q4 => [(b, .inr (4, [.int (-1), .int 0, .int 0, .int 0, .int (-2), .int (-1), .int 0, .int 0, .ref q1, .ref q2, .ref q3, .null, .null])), (q1, .inl (cI, 4, .inl (fun _ => 0))), (q2, .inl (cI, 10, .inl (fun _ => 0))), (q3, .inl (cI, 20, .inl (fun _ => 0))), (q4, .inl (cI, 256, .inl (fun _ => 0)))]) (fun _ => rfl) (fun q4 H hP hD hS => ?_)
  refine r_putF F hK hP hD hS 0 11 rfl rfl in_X4 tyX4 tyX4_ok nmX4 (by decide) k_391 rfl hin rfl rfl rfl (Nat.le_of_ble_eq_true rfl) dX4_init_74 (w1 := [(b, .inr (4, [.int (-1), .int 0, .int 0, .int 0, .int (-2), .int (-1), .int 0, .int 0, .ref q1, .ref q2, .ref q3, .ref q4, .null])), (q1, .inl (cI, 4, .inl (fun _ => 0))), (q2, .inl (cI, 10, .inl (fun _ => 0))), (q3, .inl (cI, 20, .inl (fun _ => 0))), (q4, .inl (cI, 256, .inl (fun _ => 0)))]) rfl (fun H locs hP hD hS => ?_)
  refine lv_aload_n hx hb dX4_init_77 rfl (lv_at hl 0 rfl) ?_
  refine r_new (ci := 6) (fs := [.int 0, .int 0, .int 0, .int 0, .int 0, .null, .null, .null, .long 0, .null]) F hK hP hD hS hA rfl in_X6 tyX6 tyX6_ok k_368 k_315 k_102 (bw_dflt rfl) (Nat.le_of_ble_eq_true rfl) (Nat.le_of_ble_eq_true rfl) dX4_init_78 (w1 := fun q5 => [(b, .inr (4, [.int (-1), .int 0, .int 0, .int 0, .int (-2), .int (-1), .int 0, .int 0, .ref q1, .ref q2, .ref q3, .ref q4, .null])), (q1, .inl (cI, 4, .inl (fun _ => 0))), (q2, .inl (cI, 10, .inl (fun _ => 0))), (q3, .inl (cI, 20, .inl (fun _ => 0))), (q4, .inl (cI, 256, .inl (fun _ => 0))), (q5, .inr (6, [.int 0, .int 0, .int 0, .int 0, .int 0, .null, .null, .null, .long 0, .null]))]) (fun _ => rfl) (fun q5 H hP hD hS => ?_)
  refine lv_dup hx hb dX4_init_81 rfl ?_
  refine r_callNv (As := []) (rest := [.ref q5, .ref b]) (wr := [(b, .inr (4, [.int (-1), .int 0, .int 0, .int 0, .int (-2), .int (-1), .int 0, .int 0, .ref q1, .ref q2, .ref q3, .ref q4, .null])), (q1, .inl (cI, 4, .inl (fun _ => 0))), (q2, .inl (cI, 10, .inl (fun _ => 0))), (q3, .inl (cI, 20, .inl (fun _ => 0))), (q4, .inl (cI, 256, .inl (fun _ => 0)))]) F hK hP hD hS hA hO hE (c_X6_init hO q5) (hN _ _ hE).2.2.2.2.1 ki_X6_init rfl 0 rfl (by decide +kernel) ⟨Nat.le_of_ble_eq_true rfl, Nat.le_of_ble_eq_true rfl⟩ [5] [0, 1, 2, 3, 4] rfl rfl (by decide) (by decide) (by decide) hl.1 rfl (Nat.le_of_ble_eq_true rfl) dX4_init_82 ⟨Nat.le_of_ble_eq_true rfl, Nat.le_of_ble_eq_true rfl⟩ (w1 := fun u6 => [(b, .inr (4, [.int (-1), .int 0, .int 0, .int 0, .int (-2), .int (-1), .int 0, .int 0, .ref q1, .ref q2, .ref q3, .ref q4, .null])), (q1, .inl (cI, 4, .inl (fun _ => 0))), (q2, .inl (cI, 10, .inl (fun _ => 0))), (q3, .inl (cI, 20, .inl (fun _ => 0))), (q4, .inl (cI, 256, .inl (fun _ => 0))), (q5, .inr (6, [.int 0, .int 0, .int 0, .int 0, .int 0, .ref (u6.1 0), .ref (u6.1 1), .ref (u6.1 2), .long 0, .ref (u6.1 3)]))]) (fun _ => rfl) (fun  u6 H locs hp hP hD hS => ?_)
  refine r_putF F hK hP hD hS 0 12 rfl rfl in_X4 tyX4 tyX4_ok nmX4 (by decide) k_392 rfl hin rfl rfl rfl (Nat.le_of_ble_eq_true rfl) dX4_init_85 (w1 := [(b, .inr (4, [.int (-1), .int 0, .int 0, .int 0, .int (-2), .int (-1), .int 0, .int 0, .ref q1, .ref q2, .ref q3, .ref q4, .ref q5])), (q1, .inl (cI, 4, .inl (fun _ => 0))), (q2, .inl (cI, 10, .inl (fun _ => 0))), (q3, .inl (cI, 20, .inl (fun _ => 0))), (q4, .inl (cI, 256, .inl (fun _ => 0))), (q5, .inr (6, [.int 0, .int 0, .int 0, .int 0, .int 0, .ref (u6.1 0), .ref (u6.1 1), .ref (u6.1 2), .long 0, .ref (u6.1 3)]))]) rfl (fun H locs hP hD hS => ?_)
  exact ret (fun _ => 0, fun _ _ => 0) _ _ _ _ _ _ trivial (bw_subP (isC := []) hP rfl) (hD.sub [] (by decide) rfl) hS (Nat.le_of_ble_eq_true rfl) (Nat.le_of_ble_eq_true rfl) dX4_init_88
theorem dX1_init_0 : decode cX1_init 0 = .ok (.aload_n 0, 1) := by decide +kernel
theorem dX1_init_1 : decode cX1_init 1 = .ok (.invokespecial 3, 3) := by decide +kernel
theorem k_475 : Cond.methodLink RX1 3 Lib.objectInit ∈ bw_T := bw_m 475 (by decide +kernel) rfl
theorem dX1_init_4 : decode cX1_init 4 = .ok (.aload_n 0, 1) := by decide +kernel
theorem dX1_init_5 : decode cX1_init 5 = .ok (.iconst 0, 1) := by decide +kernel
theorem dX1_init_6 : decode cX1_init 6 = .ok (.putfield 9, 3) := by decide +kernel
theorem k_482 : Cond.fieldLink RX1 9 "BurntWays$Marks" "count" "I" ∈ bw_T := bw_m 482 (by decide +kernel) rfl
theorem in_X1 : ∀ w ∈ wsX10, w ∈ bw_T := bw_ms _ [488, 490, 492] (by decide +kernel) (by decide +kernel)
theorem dX1_init_9 : decode cX1_init 9 = .ok (.aload_n 0, 1) := by decide +kernel
theorem dX1_init_10 : decode cX1_init 10 = .ok (.iconst 4, 1) := by decide +kernel
theorem dX1_init_11 : decode cX1_init 11 = .ok (.anewarray 15, 3) := by decide +kernel
theorem k_476 : Cond.classLink RX1 15 RX2 ∈ bw_T := bw_m 476 (by decide +kernel) rfl
theorem dX1_init_14 : decode cX1_init 14 = .ok (.putfield 17, 3) := by decide +kernel
theorem k_484 : Cond.fieldLink RX1 17 "BurntWays$Marks" "nets" "[LBurntWays$Net;" ∈ bw_T := bw_m 484 (by decide +kernel) rfl
theorem dX1_init_17 : decode cX1_init 17 = .ok (.aload_n 0, 1) := by decide +kernel
theorem dX1_init_18 : decode cX1_init 18 = .ok (.iconst 4, 1) := by decide +kernel
theorem dX1_init_19 : decode cX1_init 19 = .ok (.anewarray 21, 3) := by decide +kernel
theorem k_478 : Cond.classLink RX1 21 RX6 ∈ bw_T := bw_m 478 (by decide +kernel) rfl
theorem dX1_init_22 : decode cX1_init 22 = .ok (.putfield 23, 3) := by decide +kernel
theorem k_486 : Cond.fieldLink RX1 23 "BurntWays$Marks" "walks" "[LBurntWays$Walk;" ∈ bw_T := bw_m 486 (by decide +kernel) rfl
theorem dX1_init_25 : decode cX1_init 25 = .ok (.iconst 0, 1) := by decide +kernel
theorem dX1_init_26 : decode cX1_init 26 = .ok (.istore_n 1, 1) := by decide +kernel
theorem dX1_init_27 : decode cX1_init 27 = .ok (.iload_n 1, 1) := by decide +kernel
theorem dX1_init_28 : decode cX1_init 28 = .ok (.iconst 4, 1) := by decide +kernel
theorem dX1_init_29 : decode cX1_init 29 = .ok (.if_icmp .ge 35, 3) := by decide +kernel
theorem dX1_init_32 : decode cX1_init 32 = .ok (.aload_n 0, 1) := by decide +kernel
theorem dX1_init_33 : decode cX1_init 33 = .ok (.getfield 17, 3) := by decide +kernel
theorem dX1_init_36 : decode cX1_init 36 = .ok (.iload_n 1, 1) := by decide +kernel
theorem dX1_init_37 : decode cX1_init 37 = .ok (.new 15, 3) := by decide +kernel
theorem k_131 : Cond.instantiable RX2 9 ∈ bw_T := bw_m 131 (by decide +kernel) rfl
theorem k_96 : Cond.initialized RX2 ∈ bw_T := bw_m 96 (by decide +kernel) rfl
theorem dX1_init_40 : decode cX1_init 40 = .ok (.dup, 1) := by decide +kernel
theorem dX1_init_41 : decode cX1_init 41 = .ok (.invokespecial 27, 3) := by decide +kernel
theorem k_480 : Cond.methodLink RX1 27 yX2_init ∈ bw_T := bw_m 480 (by decide +kernel) rfl
theorem ki_X2_init : bw_KI RX2 yX2_init (Cond.code yX2_init cX2_init 1 none) := ⟨bw_m 133 (by decide +kernel) rfl, bw_m 96 (by decide +kernel) rfl, bw_m 134 (by decide +kernel) rfl⟩
theorem dX1_init_44 : decode cX1_init 44 = .ok (.aastore, 1) := by decide +kernel
theorem dX1_init_45 : decode cX1_init 45 = .ok (.aload_n 0, 1) := by decide +kernel
theorem dX1_init_46 : decode cX1_init 46 = .ok (.getfield 23, 3) := by decide +kernel
theorem dX1_init_49 : decode cX1_init 49 = .ok (.iload_n 1, 1) := by decide +kernel
theorem dX1_init_50 : decode cX1_init 50 = .ok (.new 21, 3) := by decide +kernel
theorem dX1_init_53 : decode cX1_init 53 = .ok (.dup, 1) := by decide +kernel
theorem dX1_init_54 : decode cX1_init 54 = .ok (.invokespecial 28, 3) := by decide +kernel
theorem dX1_init_57 : decode cX1_init 57 = .ok (.aastore, 1) := by decide +kernel
theorem dX1_init_58 : decode cX1_init 58 = .ok (.iinc 1 1, 3) := by decide +kernel
theorem dX1_init_61 : decode cX1_init 61 = .ok (.goto (-34), 3) := by decide +kernel
theorem dX1_init_64 : decode cX1_init 64 = .ok (.return_, 1) := by decide +kernel
abbrev rm_X1_init : Room := { frames := 3, cells := 58, slots := 1420, locals := 63 }
set_option maxRecDepth 100000 in
set_option maxHeartbeats 4000000 in
theorem c_X1_init {l : Launch} {E : (Nat → Prop) → State → Prop} (hO : bw_Ok E) {G : va_G} {cI cB cJ cN cW : ClassId} (hN : bw_Nests E) (b : Nat) : bw_Cv (S := bw_U) l yX1_init (bw_ws (Cond.code yX1_init cX1_init 2 none)) rm_X1_init E G (bw_kt cI cB cJ cN cW) [.ref b] [(b, .inr (1, [.int 0, .null, .null]))] (fun _ => True) (fun u => [(b, .inr (1, [.int 0, .ref (u.1 0), .ref (u.1 1)]))]) := by
  refine bw_Cv.of (cc := cX1_init) (maxL := 2) (by decide) rfl (Nat.le_of_ble_eq_true rfl) ?_
  intro p e s m below meth c A Q hx hb hml hts hown hin hK hA hS hP hD hE ret ls hl
  have F : CallFix p m c cX1_init 2 s ([.ref b] : List Value).toArray bw_T RX1 := ⟨hx, hb, hml, hown, fun w h => hts w (List.mem_cons_of_mem _ h)⟩
  have hl : lv_has ls 2 [(0, .ref b)] := hl
  refine lv_aload_n hx hb dX1_init_0 rfl (lv_at hl 0 rfl) ?_
  refine r_objInit F k_475 k_oi k_oc hl.1 dX1_init_1 (Nat.le_of_ble_eq_true rfl) (Nat.le_of_ble_eq_true rfl) ?_
  refine lv_aload_n hx hb dX1_init_4 rfl (lv_at hl 0 rfl) ?_
  refine lv_iconst (v := 0) hx hb dX1_init_5 (by decide) ?_
  refine r_put F hK hP hD hS 0 0 rfl rfl in_X1 tyX1 tyX1_ok nmX1 (by decide) k_482 rfl rfl rfl (Nat.le_of_ble_eq_true rfl) dX1_init_6 (w1 := [(b, .inr (1, [.int 0, .null, .null]))]) rfl (fun H locs hP hD hS => ?_)
  refine lv_aload_n hx hb dX1_init_9 rfl (lv_at hl 0 rfl) ?_
  refine lv_iconst (v := 4) hx hb dX1_init_10 (by decide) ?_
  refine r_newq F k_476 (hN _ _ hE).2.2.2.2.2.2.2.2.1 hK hP hD hS hA 3 rfl 4 (by decide) (by decide) (by omega) (Nat.le_of_ble_eq_true rfl) (Nat.le_of_ble_eq_true rfl) dX1_init_11 (w1 := fun q1 => [(b, .inr (1, [.int 0, .null, .null])), (q1, .inl (cN, 4, .inr (.inr (.inr (.inr (fun _ => none))))))]) (fun _ => rfl) (fun q1 H hP hD hS => ?_)
  refine r_putF F hK hP hD hS 0 1 rfl rfl in_X1 tyX1 tyX1_ok nmX1 (by decide) k_484 rfl hin rfl rfl rfl (Nat.le_of_ble_eq_true rfl) dX1_init_14 (w1 := [(b, .inr (1, [.int 0, .ref q1, .null])), (q1, .inl (cN, 4, .inr (.inr (.inr (.inr (fun _ => none))))))]) rfl (fun H locs hP hD hS => ?_)
  refine lv_aload_n hx hb dX1_init_17 rfl (lv_at hl 0 rfl) ?_
  refine lv_iconst (v := 4) hx hb dX1_init_18 (by decide) ?_
  refine r_newq F k_478 (hN _ _ hE).2.2.2.2.2.2.2.2.2 hK hP hD hS hA 4 rfl 4 (by decide) (by decide) (by omega) (Nat.le_of_ble_eq_true rfl) (Nat.le_of_ble_eq_true rfl) dX1_init_19 (w1 := fun q2 => [(b, .inr (1, [.int 0, .ref q1, .null])), (q1, .inl (cN, 4, .inr (.inr (.inr (.inr (fun _ => none)))))), (q2, .inl (cW, 4, .inr (.inr (.inr (.inr (fun _ => none))))))]) (fun _ => rfl) (fun q2 H hP hD hS => ?_)
  refine r_putF F hK hP hD hS 0 2 rfl rfl in_X1 tyX1 tyX1_ok nmX1 (by decide) k_486 rfl hin rfl rfl rfl (Nat.le_of_ble_eq_true rfl) dX1_init_22 (w1 := [(b, .inr (1, [.int 0, .ref q1, .ref q2])), (q1, .inl (cN, 4, .inr (.inr (.inr (.inr (fun _ => none)))))), (q2, .inl (cW, 4, .inr (.inr (.inr (.inr (fun _ => none))))))]) rfl (fun H locs hP hD hS => ?_)
  refine lv_iconst (v := 0) hx hb dX1_init_25 (by decide) ?_
  refine lv_istore_n (lv' := [(1, .int 0), (0, .ref b)]) hx hb dX1_init_26 rfl hl (by decide) rfl (fun ls hl => ?_)
  refine lv_iload_n hx hb dX1_init_27 rfl (lv_at hl 0 rfl) ?_
  refine lv_iconst (v := 4) hx hb dX1_init_28 (by decide) ?_
  refine lv_icmp_ge (tgt := 64) hx hb dX1_init_29 (by decide) (fun h9 => absurd h9 (by decide)) (fun _ => ?_)
  refine lv_aload_n hx hb dX1_init_32 rfl (lv_at hl 1 rfl) ?_
  refine r_get F hK hP 0 1 rfl rfl in_X1 (by decide) k_484 rfl dX1_init_33 ?_
  refine lv_iload_n hx hb dX1_init_36 rfl (lv_at hl 0 rfl) ?_
  refine r_new (ci := 2) (fs := [.int 0, .null, .null, .null, .null, .null, .null, .null, .null]) F hK hP hD hS hA rfl in_X2 tyX2 tyX2_ok k_476 k_131 k_96 (bw_dflt rfl) (Nat.le_of_ble_eq_true rfl) (Nat.le_of_ble_eq_true rfl) dX1_init_37 (w1 := fun q3 => [(b, .inr (1, [.int 0, .ref q1, .ref q2])), (q1, .inl (cN, 4, .inr (.inr (.inr (.inr (fun _ => none)))))), (q2, .inl (cW, 4, .inr (.inr (.inr (.inr (fun _ => none)))))), (q3, .inr (2, [.int 0, .null, .null, .null, .null, .null, .null, .null, .null]))]) (fun _ => rfl) (fun q3 H hP hD hS => ?_)
  refine lv_dup hx hb dX1_init_40 rfl ?_
  refine r_callIv (As := []) (rest := [.ref q3, .int 0, .ref q1]) (wr := [(b, .inr (1, [.int 0, .ref q1, .ref q2])), (q1, .inl (cN, 4, .inr (.inr (.inr (.inr (fun _ => none)))))), (q2, .inl (cW, 4, .inr (.inr (.inr (.inr (fun _ => none))))))]) F hK hP hD hS hA hO hE (c_X2_init hO q3) k_480 ki_X2_init rfl 0 rfl (by decide +kernel) ⟨Nat.le_of_ble_eq_true rfl, Nat.le_of_ble_eq_true rfl⟩ [3] [0, 1, 2] rfl rfl (by decide) (by decide) (by decide) hl.1 rfl (Nat.le_of_ble_eq_true rfl) dX1_init_41 ⟨Nat.le_of_ble_eq_true rfl, Nat.le_of_ble_eq_true rfl⟩ (w1 := fun u4 => [(b, .inr (1, [.int 0, .ref q1, .ref q2])), (q1, .inl (cN, 4, .inr (.inr (.inr (.inr (fun _ => none)))))), (q2, .inl (cW, 4, .inr (.inr (.inr (.inr (fun _ => none)))))), (q3, .inr (2, [.int 0, .ref (u4.1 0), .ref (u4.1 1), .ref (u4.1 2), .ref (u4.1 3), .ref (u4.1 4), .ref (u4.1 5), .ref (u4.1 6), .ref (u4.1 7)])), ((u4.1 0), .inl (cI, 10, .inl (u4.2 0))), ((u4.1 1), .inl (cI, 10, .inl (u4.2 1))), ((u4.1 2), .inl (cI, 10, .inl (u4.2 2))), ((u4.1 6), .inl (cI, 20, .inl (u4.2 3))), ((u4.1 7), .inl (cI, 20, .inl (fun _ => 0)))]) (fun _ => rfl) (fun  u4 H locs hp hP hD hS => ?_)
  refine r_astX F hK hP hD hS 1 3 3 2 rfl rfl rfl rfl (bw_vin (by decide)) dX1_init_44 (w1 := fun f5 => [(b, .inr (1, [.int 0, .ref q1, .ref q2])), (q1, .inl (cN, 4, .inr (.inr (.inr (.inr f5))))), (q2, .inl (cW, 4, .inr (.inr (.inr (.inr (fun _ => none)))))), (q3, .inr (2, [.int 0, .ref (u4.1 0), .ref (u4.1 1), .ref (u4.1 2), .ref (u4.1 3), .ref (u4.1 4), .ref (u4.1 5), .ref (u4.1 6), .ref (u4.1 7)])), ((u4.1 0), .inl (cI, 10, .inl (u4.2 0))), ((u4.1 1), .inl (cI, 10, .inl (u4.2 1))), ((u4.1 2), .inl (cI, 10, .inl (u4.2 2))), ((u4.1 6), .inl (cI, 20, .inl (u4.2 3))), ((u4.1 7), .inl (cI, 20, .inl (fun _ => 0)))]) (fun _ => rfl) (fun f5 H locs hP hD hS => ?_)
  have hP := bw_subP (isC := [0, 1, 2]) (wc := [(b, .inr (1, [.int 0, .ref q1, .ref q2])), (q1, .inl (cN, 4, .inr (.inr (.inr (.inr f5))))), (q2, .inl (cW, 4, .inr (.inr (.inr (.inr (fun _ => none))))))]) hP rfl
  have hD := hD.sub (ws' := [(b, .inr (1, [.int 0, .ref q1, .ref q2])), (q1, .inl (cN, 4, .inr (.inr (.inr (.inr f5))))), (q2, .inl (cW, 4, .inr (.inr (.inr (.inr (fun _ => none))))))]) [0, 1, 2] (by decide) rfl
  refine lv_aload_n hx hb dX1_init_45 rfl (lv_at hl 1 rfl) ?_
  refine r_get F hK hP 0 2 rfl rfl in_X1 (by decide) k_486 rfl dX1_init_46 ?_
  refine lv_iload_n hx hb dX1_init_49 rfl (lv_at hl 0 rfl) ?_
  refine r_new (ci := 6) (fs := [.int 0, .int 0, .int 0, .int 0, .int 0, .null, .null, .null, .long 0, .null]) F hK hP hD hS hA rfl in_X6 tyX6 tyX6_ok k_478 k_315 k_102 (bw_dflt rfl) (Nat.le_of_ble_eq_true rfl) (Nat.le_of_ble_eq_true rfl) dX1_init_50 (w1 := fun q6 => [(b, .inr (1, [.int 0, .ref q1, .ref q2])), (q1, .inl (cN, 4, .inr (.inr (.inr (.inr f5))))), (q2, .inl (cW, 4, .inr (.inr (.inr (.inr (fun _ => none)))))), (q6, .inr (6, [.int 0, .int 0, .int 0, .int 0, .int 0, .null, .null, .null, .long 0, .null]))]) (fun _ => rfl) (fun q6 H hP hD hS => ?_)
  refine lv_dup hx hb dX1_init_53 rfl ?_
  refine r_callNv (As := []) (rest := [.ref q6, .int 0, .ref q2]) (wr := [(b, .inr (1, [.int 0, .ref q1, .ref q2])), (q1, .inl (cN, 4, .inr (.inr (.inr (.inr f5))))), (q2, .inl (cW, 4, .inr (.inr (.inr (.inr (fun _ => none))))))]) F hK hP hD hS hA hO hE (c_X6_init hO q6) (hN _ _ hE).2.2.2.2.2.2.2.1 ki_X6_init rfl 0 rfl (by decide +kernel) ⟨Nat.le_of_ble_eq_true rfl, Nat.le_of_ble_eq_true rfl⟩ [3] [0, 1, 2] rfl rfl (by decide) (by decide) (by decide) hl.1 rfl (Nat.le_of_ble_eq_true rfl) dX1_init_54 ⟨Nat.le_of_ble_eq_true rfl, Nat.le_of_ble_eq_true rfl⟩ (w1 := fun u7 => [(b, .inr (1, [.int 0, .ref q1, .ref q2])), (q1, .inl (cN, 4, .inr (.inr (.inr (.inr f5))))), (q2, .inl (cW, 4, .inr (.inr (.inr (.inr (fun _ => none)))))), (q6, .inr (6, [.int 0, .int 0, .int 0, .int 0, .int 0, .ref (u7.1 0), .ref (u7.1 1), .ref (u7.1 2), .long 0, .ref (u7.1 3)]))]) (fun _ => rfl) (fun  u7 H locs hp hP hD hS => ?_)
  refine r_astX F hK hP hD hS 2 4 3 6 rfl rfl rfl rfl (bw_vin (by decide)) dX1_init_57 (w1 := fun f8 => [(b, .inr (1, [.int 0, .ref q1, .ref q2])), (q1, .inl (cN, 4, .inr (.inr (.inr (.inr f5))))), (q2, .inl (cW, 4, .inr (.inr (.inr (.inr f8))))), (q6, .inr (6, [.int 0, .int 0, .int 0, .int 0, .int 0, .ref (u7.1 0), .ref (u7.1 1), .ref (u7.1 2), .long 0, .ref (u7.1 3)]))]) (fun _ => rfl) (fun f8 H locs hP hD hS => ?_)
  have hP := bw_subP (isC := [0, 1, 2]) (wc := [(b, .inr (1, [.int 0, .ref q1, .ref q2])), (q1, .inl (cN, 4, .inr (.inr (.inr (.inr f5))))), (q2, .inl (cW, 4, .inr (.inr (.inr (.inr f8)))))]) hP rfl
  have hD := hD.sub (ws' := [(b, .inr (1, [.int 0, .ref q1, .ref q2])), (q1, .inl (cN, 4, .inr (.inr (.inr (.inr f5))))), (q2, .inl (cW, 4, .inr (.inr (.inr (.inr f8)))))]) [0, 1, 2] (by decide) rfl
  refine lv_iinc (v := 1) (lv' := [(1, .int 1), (0, .ref b)]) hx hb dX1_init_58 hl (k := 0) rfl (by decide) (by decide) rfl (fun ls hl => ?_)
  refine lv_goto (tgt := 27) hx hb dX1_init_61 (by decide) ?_
  refine lv_iload_n hx hb dX1_init_27 rfl (lv_at hl 0 rfl) ?_
  refine lv_iconst (v := 4) hx hb dX1_init_28 (by decide) ?_
  refine lv_icmp_ge (tgt := 64) hx hb dX1_init_29 (by decide) (fun h9 => absurd h9 (by decide)) (fun _ => ?_)
  refine lv_aload_n hx hb dX1_init_32 rfl (lv_at hl 1 rfl) ?_
  refine r_get F hK hP 0 1 rfl rfl in_X1 (by decide) k_484 rfl dX1_init_33 ?_
  refine lv_iload_n hx hb dX1_init_36 rfl (lv_at hl 0 rfl) ?_
  refine r_new (ci := 2) (fs := [.int 0, .null, .null, .null, .null, .null, .null, .null, .null]) F hK hP hD hS hA rfl in_X2 tyX2 tyX2_ok k_476 k_131 k_96 (bw_dflt rfl) (Nat.le_of_ble_eq_true rfl) (Nat.le_of_ble_eq_true rfl) dX1_init_37 (w1 := fun q9 => [(b, .inr (1, [.int 0, .ref q1, .ref q2])), (q1, .inl (cN, 4, .inr (.inr (.inr (.inr f5))))), (q2, .inl (cW, 4, .inr (.inr (.inr (.inr f8))))), (q9, .inr (2, [.int 0, .null, .null, .null, .null, .null, .null, .null, .null]))]) (fun _ => rfl) (fun q9 H hP hD hS => ?_)
  refine lv_dup hx hb dX1_init_40 rfl ?_
  refine r_callIv (As := []) (rest := [.ref q9, .int 1, .ref q1]) (wr := [(b, .inr (1, [.int 0, .ref q1, .ref q2])), (q1, .inl (cN, 4, .inr (.inr (.inr (.inr f5))))), (q2, .inl (cW, 4, .inr (.inr (.inr (.inr f8)))))]) F hK hP hD hS hA hO hE (c_X2_init hO q9) k_480 ki_X2_init rfl 0 rfl (by decide +kernel) ⟨Nat.le_of_ble_eq_true rfl, Nat.le_of_ble_eq_true rfl⟩ [3] [0, 1, 2] rfl rfl (by decide) (by decide) (by decide) hl.1 rfl (Nat.le_of_ble_eq_true rfl) dX1_init_41 ⟨Nat.le_of_ble_eq_true rfl, Nat.le_of_ble_eq_true rfl⟩ (w1 := fun u10 => [(b, .inr (1, [.int 0, .ref q1, .ref q2])), (q1, .inl (cN, 4, .inr (.inr (.inr (.inr f5))))), (q2, .inl (cW, 4, .inr (.inr (.inr (.inr f8))))), (q9, .inr (2, [.int 0, .ref (u10.1 0), .ref (u10.1 1), .ref (u10.1 2), .ref (u10.1 3), .ref (u10.1 4), .ref (u10.1 5), .ref (u10.1 6), .ref (u10.1 7)])), ((u10.1 0), .inl (cI, 10, .inl (u10.2 0))), ((u10.1 1), .inl (cI, 10, .inl (u10.2 1))), ((u10.1 2), .inl (cI, 10, .inl (u10.2 2))), ((u10.1 6), .inl (cI, 20, .inl (u10.2 3))), ((u10.1 7), .inl (cI, 20, .inl (fun _ => 0)))]) (fun _ => rfl) (fun  u10 H locs hp hP hD hS => ?_)
  refine r_astX F hK hP hD hS 1 3 3 2 rfl rfl rfl rfl (bw_vin (by decide)) dX1_init_44 (w1 := fun f11 => [(b, .inr (1, [.int 0, .ref q1, .ref q2])), (q1, .inl (cN, 4, .inr (.inr (.inr (.inr f11))))), (q2, .inl (cW, 4, .inr (.inr (.inr (.inr f8))))), (q9, .inr (2, [.int 0, .ref (u10.1 0), .ref (u10.1 1), .ref (u10.1 2), .ref (u10.1 3), .ref (u10.1 4), .ref (u10.1 5), .ref (u10.1 6), .ref (u10.1 7)])), ((u10.1 0), .inl (cI, 10, .inl (u10.2 0))), ((u10.1 1), .inl (cI, 10, .inl (u10.2 1))), ((u10.1 2), .inl (cI, 10, .inl (u10.2 2))), ((u10.1 6), .inl (cI, 20, .inl (u10.2 3))), ((u10.1 7), .inl (cI, 20, .inl (fun _ => 0)))]) (fun _ => rfl) (fun f11 H locs hP hD hS => ?_)
  have hP := bw_subP (isC := [0, 1, 2]) (wc := [(b, .inr (1, [.int 0, .ref q1, .ref q2])), (q1, .inl (cN, 4, .inr (.inr (.inr (.inr f11))))), (q2, .inl (cW, 4, .inr (.inr (.inr (.inr f8)))))]) hP rfl
  have hD := hD.sub (ws' := [(b, .inr (1, [.int 0, .ref q1, .ref q2])), (q1, .inl (cN, 4, .inr (.inr (.inr (.inr f11))))), (q2, .inl (cW, 4, .inr (.inr (.inr (.inr f8)))))]) [0, 1, 2] (by decide) rfl
  refine lv_aload_n hx hb dX1_init_45 rfl (lv_at hl 1 rfl) ?_
  refine r_get F hK hP 0 2 rfl rfl in_X1 (by decide) k_486 rfl dX1_init_46 ?_
  refine lv_iload_n hx hb dX1_init_49 rfl (lv_at hl 0 rfl) ?_
  refine r_new (ci := 6) (fs := [.int 0, .int 0, .int 0, .int 0, .int 0, .null, .null, .null, .long 0, .null]) F hK hP hD hS hA rfl in_X6 tyX6 tyX6_ok k_478 k_315 k_102 (bw_dflt rfl) (Nat.le_of_ble_eq_true rfl) (Nat.le_of_ble_eq_true rfl) dX1_init_50 (w1 := fun q12 => [(b, .inr (1, [.int 0, .ref q1, .ref q2])), (q1, .inl (cN, 4, .inr (.inr (.inr (.inr f11))))), (q2, .inl (cW, 4, .inr (.inr (.inr (.inr f8))))), (q12, .inr (6, [.int 0, .int 0, .int 0, .int 0, .int 0, .null, .null, .null, .long 0, .null]))]) (fun _ => rfl) (fun q12 H hP hD hS => ?_)
  refine lv_dup hx hb dX1_init_53 rfl ?_
  refine r_callNv (As := []) (rest := [.ref q12, .int 1, .ref q2]) (wr := [(b, .inr (1, [.int 0, .ref q1, .ref q2])), (q1, .inl (cN, 4, .inr (.inr (.inr (.inr f11))))), (q2, .inl (cW, 4, .inr (.inr (.inr (.inr f8)))))]) F hK hP hD hS hA hO hE (c_X6_init hO q12) (hN _ _ hE).2.2.2.2.2.2.2.1 ki_X6_init rfl 0 rfl (by decide +kernel) ⟨Nat.le_of_ble_eq_true rfl, Nat.le_of_ble_eq_true rfl⟩ [3] [0, 1, 2] rfl rfl (by decide) (by decide) (by decide) hl.1 rfl (Nat.le_of_ble_eq_true rfl) dX1_init_54 ⟨Nat.le_of_ble_eq_true rfl, Nat.le_of_ble_eq_true rfl⟩ (w1 := fun u13 => [(b, .inr (1, [.int 0, .ref q1, .ref q2])), (q1, .inl (cN, 4, .inr (.inr (.inr (.inr f11))))), (q2, .inl (cW, 4, .inr (.inr (.inr (.inr f8))))), (q12, .inr (6, [.int 0, .int 0, .int 0, .int 0, .int 0, .ref (u13.1 0), .ref (u13.1 1), .ref (u13.1 2), .long 0, .ref (u13.1 3)]))]) (fun _ => rfl) (fun  u13 H locs hp hP hD hS => ?_)
  refine r_astX F hK hP hD hS 2 4 3 6 rfl rfl rfl rfl (bw_vin (by decide)) dX1_init_57 (w1 := fun f14 => [(b, .inr (1, [.int 0, .ref q1, .ref q2])), (q1, .inl (cN, 4, .inr (.inr (.inr (.inr f11))))), (q2, .inl (cW, 4, .inr (.inr (.inr (.inr f14))))), (q12, .inr (6, [.int 0, .int 0, .int 0, .int 0, .int 0, .ref (u13.1 0), .ref (u13.1 1), .ref (u13.1 2), .long 0, .ref (u13.1 3)]))]) (fun _ => rfl) (fun f14 H locs hP hD hS => ?_)
  have hP := bw_subP (isC := [0, 1, 2]) (wc := [(b, .inr (1, [.int 0, .ref q1, .ref q2])), (q1, .inl (cN, 4, .inr (.inr (.inr (.inr f11))))), (q2, .inl (cW, 4, .inr (.inr (.inr (.inr f14)))))]) hP rfl
  have hD := hD.sub (ws' := [(b, .inr (1, [.int 0, .ref q1, .ref q2])), (q1, .inl (cN, 4, .inr (.inr (.inr (.inr f11))))), (q2, .inl (cW, 4, .inr (.inr (.inr (.inr f14)))))]) [0, 1, 2] (by decide) rfl
  refine lv_iinc (v := 2) (lv' := [(1, .int 2), (0, .ref b)]) hx hb dX1_init_58 hl (k := 0) rfl (by decide) (by decide) rfl (fun ls hl => ?_)
  refine lv_goto (tgt := 27) hx hb dX1_init_61 (by decide) ?_
  refine lv_iload_n hx hb dX1_init_27 rfl (lv_at hl 0 rfl) ?_
  refine lv_iconst (v := 4) hx hb dX1_init_28 (by decide) ?_
  refine lv_icmp_ge (tgt := 64) hx hb dX1_init_29 (by decide) (fun h9 => absurd h9 (by decide)) (fun _ => ?_)
  refine lv_aload_n hx hb dX1_init_32 rfl (lv_at hl 1 rfl) ?_
  refine r_get F hK hP 0 1 rfl rfl in_X1 (by decide) k_484 rfl dX1_init_33 ?_
  refine lv_iload_n hx hb dX1_init_36 rfl (lv_at hl 0 rfl) ?_
  refine r_new (ci := 2) (fs := [.int 0, .null, .null, .null, .null, .null, .null, .null, .null]) F hK hP hD hS hA rfl in_X2 tyX2 tyX2_ok k_476 k_131 k_96 (bw_dflt rfl) (Nat.le_of_ble_eq_true rfl) (Nat.le_of_ble_eq_true rfl) dX1_init_37 (w1 := fun q15 => [(b, .inr (1, [.int 0, .ref q1, .ref q2])), (q1, .inl (cN, 4, .inr (.inr (.inr (.inr f11))))), (q2, .inl (cW, 4, .inr (.inr (.inr (.inr f14))))), (q15, .inr (2, [.int 0, .null, .null, .null, .null, .null, .null, .null, .null]))]) (fun _ => rfl) (fun q15 H hP hD hS => ?_)
  refine lv_dup hx hb dX1_init_40 rfl ?_
  refine r_callIv (As := []) (rest := [.ref q15, .int 2, .ref q1]) (wr := [(b, .inr (1, [.int 0, .ref q1, .ref q2])), (q1, .inl (cN, 4, .inr (.inr (.inr (.inr f11))))), (q2, .inl (cW, 4, .inr (.inr (.inr (.inr f14)))))]) F hK hP hD hS hA hO hE (c_X2_init hO q15) k_480 ki_X2_init rfl 0 rfl (by decide +kernel) ⟨Nat.le_of_ble_eq_true rfl, Nat.le_of_ble_eq_true rfl⟩ [3] [0, 1, 2] rfl rfl (by decide) (by decide) (by decide) hl.1 rfl (Nat.le_of_ble_eq_true rfl) dX1_init_41 ⟨Nat.le_of_ble_eq_true rfl, Nat.le_of_ble_eq_true rfl⟩ (w1 := fun u16 => [(b, .inr (1, [.int 0, .ref q1, .ref q2])), (q1, .inl (cN, 4, .inr (.inr (.inr (.inr f11))))), (q2, .inl (cW, 4, .inr (.inr (.inr (.inr f14))))), (q15, .inr (2, [.int 0, .ref (u16.1 0), .ref (u16.1 1), .ref (u16.1 2), .ref (u16.1 3), .ref (u16.1 4), .ref (u16.1 5), .ref (u16.1 6), .ref (u16.1 7)])), ((u16.1 0), .inl (cI, 10, .inl (u16.2 0))), ((u16.1 1), .inl (cI, 10, .inl (u16.2 1))), ((u16.1 2), .inl (cI, 10, .inl (u16.2 2))), ((u16.1 6), .inl (cI, 20, .inl (u16.2 3))), ((u16.1 7), .inl (cI, 20, .inl (fun _ => 0)))]) (fun _ => rfl) (fun  u16 H locs hp hP hD hS => ?_)
  refine r_astX F hK hP hD hS 1 3 3 2 rfl rfl rfl rfl (bw_vin (by decide)) dX1_init_44 (w1 := fun f17 => [(b, .inr (1, [.int 0, .ref q1, .ref q2])), (q1, .inl (cN, 4, .inr (.inr (.inr (.inr f17))))), (q2, .inl (cW, 4, .inr (.inr (.inr (.inr f14))))), (q15, .inr (2, [.int 0, .ref (u16.1 0), .ref (u16.1 1), .ref (u16.1 2), .ref (u16.1 3), .ref (u16.1 4), .ref (u16.1 5), .ref (u16.1 6), .ref (u16.1 7)])), ((u16.1 0), .inl (cI, 10, .inl (u16.2 0))), ((u16.1 1), .inl (cI, 10, .inl (u16.2 1))), ((u16.1 2), .inl (cI, 10, .inl (u16.2 2))), ((u16.1 6), .inl (cI, 20, .inl (u16.2 3))), ((u16.1 7), .inl (cI, 20, .inl (fun _ => 0)))]) (fun _ => rfl) (fun f17 H locs hP hD hS => ?_)
  have hP := bw_subP (isC := [0, 1, 2]) (wc := [(b, .inr (1, [.int 0, .ref q1, .ref q2])), (q1, .inl (cN, 4, .inr (.inr (.inr (.inr f17))))), (q2, .inl (cW, 4, .inr (.inr (.inr (.inr f14)))))]) hP rfl
  have hD := hD.sub (ws' := [(b, .inr (1, [.int 0, .ref q1, .ref q2])), (q1, .inl (cN, 4, .inr (.inr (.inr (.inr f17))))), (q2, .inl (cW, 4, .inr (.inr (.inr (.inr f14)))))]) [0, 1, 2] (by decide) rfl
  refine lv_aload_n hx hb dX1_init_45 rfl (lv_at hl 1 rfl) ?_
  refine r_get F hK hP 0 2 rfl rfl in_X1 (by decide) k_486 rfl dX1_init_46 ?_
  refine lv_iload_n hx hb dX1_init_49 rfl (lv_at hl 0 rfl) ?_
  refine r_new (ci := 6) (fs := [.int 0, .int 0, .int 0, .int 0, .int 0, .null, .null, .null, .long 0, .null]) F hK hP hD hS hA rfl in_X6 tyX6 tyX6_ok k_478 k_315 k_102 (bw_dflt rfl) (Nat.le_of_ble_eq_true rfl) (Nat.le_of_ble_eq_true rfl) dX1_init_50 (w1 := fun q18 => [(b, .inr (1, [.int 0, .ref q1, .ref q2])), (q1, .inl (cN, 4, .inr (.inr (.inr (.inr f17))))), (q2, .inl (cW, 4, .inr (.inr (.inr (.inr f14))))), (q18, .inr (6, [.int 0, .int 0, .int 0, .int 0, .int 0, .null, .null, .null, .long 0, .null]))]) (fun _ => rfl) (fun q18 H hP hD hS => ?_)
  refine lv_dup hx hb dX1_init_53 rfl ?_
  refine r_callNv (As := []) (rest := [.ref q18, .int 2, .ref q2]) (wr := [(b, .inr (1, [.int 0, .ref q1, .ref q2])), (q1, .inl (cN, 4, .inr (.inr (.inr (.inr f17))))), (q2, .inl (cW, 4, .inr (.inr (.inr (.inr f14)))))]) F hK hP hD hS hA hO hE (c_X6_init hO q18) (hN _ _ hE).2.2.2.2.2.2.2.1 ki_X6_init rfl 0 rfl (by decide +kernel) ⟨Nat.le_of_ble_eq_true rfl, Nat.le_of_ble_eq_true rfl⟩ [3] [0, 1, 2] rfl rfl (by decide) (by decide) (by decide) hl.1 rfl (Nat.le_of_ble_eq_true rfl) dX1_init_54 ⟨Nat.le_of_ble_eq_true rfl, Nat.le_of_ble_eq_true rfl⟩ (w1 := fun u19 => [(b, .inr (1, [.int 0, .ref q1, .ref q2])), (q1, .inl (cN, 4, .inr (.inr (.inr (.inr f17))))), (q2, .inl (cW, 4, .inr (.inr (.inr (.inr f14))))), (q18, .inr (6, [.int 0, .int 0, .int 0, .int 0, .int 0, .ref (u19.1 0), .ref (u19.1 1), .ref (u19.1 2), .long 0, .ref (u19.1 3)]))]) (fun _ => rfl) (fun  u19 H locs hp hP hD hS => ?_)
  refine r_astX F hK hP hD hS 2 4 3 6 rfl rfl rfl rfl (bw_vin (by decide)) dX1_init_57 (w1 := fun f20 => [(b, .inr (1, [.int 0, .ref q1, .ref q2])), (q1, .inl (cN, 4, .inr (.inr (.inr (.inr f17))))), (q2, .inl (cW, 4, .inr (.inr (.inr (.inr f20))))), (q18, .inr (6, [.int 0, .int 0, .int 0, .int 0, .int 0, .ref (u19.1 0), .ref (u19.1 1), .ref (u19.1 2), .long 0, .ref (u19.1 3)]))]) (fun _ => rfl) (fun f20 H locs hP hD hS => ?_)
  have hP := bw_subP (isC := [0, 1, 2]) (wc := [(b, .inr (1, [.int 0, .ref q1, .ref q2])), (q1, .inl (cN, 4, .inr (.inr (.inr (.inr f17))))), (q2, .inl (cW, 4, .inr (.inr (.inr (.inr f20)))))]) hP rfl
  have hD := hD.sub (ws' := [(b, .inr (1, [.int 0, .ref q1, .ref q2])), (q1, .inl (cN, 4, .inr (.inr (.inr (.inr f17))))), (q2, .inl (cW, 4, .inr (.inr (.inr (.inr f20)))))]) [0, 1, 2] (by decide) rfl
  refine lv_iinc (v := 3) (lv' := [(1, .int 3), (0, .ref b)]) hx hb dX1_init_58 hl (k := 0) rfl (by decide) (by decide) rfl (fun ls hl => ?_)
  refine lv_goto (tgt := 27) hx hb dX1_init_61 (by decide) ?_
  refine lv_iload_n hx hb dX1_init_27 rfl (lv_at hl 0 rfl) ?_
  refine lv_iconst (v := 4) hx hb dX1_init_28 (by decide) ?_
  refine lv_icmp_ge (tgt := 64) hx hb dX1_init_29 (by decide) (fun h9 => absurd h9 (by decide)) (fun _ => ?_)
  refine lv_aload_n hx hb dX1_init_32 rfl (lv_at hl 1 rfl) ?_
  refine r_get F hK hP 0 1 rfl rfl in_X1 (by decide) k_484 rfl dX1_init_33 ?_
  refine lv_iload_n hx hb dX1_init_36 rfl (lv_at hl 0 rfl) ?_
  refine r_new (ci := 2) (fs := [.int 0, .null, .null, .null, .null, .null, .null, .null, .null]) F hK hP hD hS hA rfl in_X2 tyX2 tyX2_ok k_476 k_131 k_96 (bw_dflt rfl) (Nat.le_of_ble_eq_true rfl) (Nat.le_of_ble_eq_true rfl) dX1_init_37 (w1 := fun q21 => [(b, .inr (1, [.int 0, .ref q1, .ref q2])), (q1, .inl (cN, 4, .inr (.inr (.inr (.inr f17))))), (q2, .inl (cW, 4, .inr (.inr (.inr (.inr f20))))), (q21, .inr (2, [.int 0, .null, .null, .null, .null, .null, .null, .null, .null]))]) (fun _ => rfl) (fun q21 H hP hD hS => ?_)
  refine lv_dup hx hb dX1_init_40 rfl ?_
  refine r_callIv (As := []) (rest := [.ref q21, .int 3, .ref q1]) (wr := [(b, .inr (1, [.int 0, .ref q1, .ref q2])), (q1, .inl (cN, 4, .inr (.inr (.inr (.inr f17))))), (q2, .inl (cW, 4, .inr (.inr (.inr (.inr f20)))))]) F hK hP hD hS hA hO hE (c_X2_init hO q21) k_480 ki_X2_init rfl 0 rfl (by decide +kernel) ⟨Nat.le_of_ble_eq_true rfl, Nat.le_of_ble_eq_true rfl⟩ [3] [0, 1, 2] rfl rfl (by decide) (by decide) (by decide) hl.1 rfl (Nat.le_of_ble_eq_true rfl) dX1_init_41 ⟨Nat.le_of_ble_eq_true rfl, Nat.le_of_ble_eq_true rfl⟩ (w1 := fun u22 => [(b, .inr (1, [.int 0, .ref q1, .ref q2])), (q1, .inl (cN, 4, .inr (.inr (.inr (.inr f17))))), (q2, .inl (cW, 4, .inr (.inr (.inr (.inr f20))))), (q21, .inr (2, [.int 0, .ref (u22.1 0), .ref (u22.1 1), .ref (u22.1 2), .ref (u22.1 3), .ref (u22.1 4), .ref (u22.1 5), .ref (u22.1 6), .ref (u22.1 7)])), ((u22.1 0), .inl (cI, 10, .inl (u22.2 0))), ((u22.1 1), .inl (cI, 10, .inl (u22.2 1))), ((u22.1 2), .inl (cI, 10, .inl (u22.2 2))), ((u22.1 6), .inl (cI, 20, .inl (u22.2 3))), ((u22.1 7), .inl (cI, 20, .inl (fun _ => 0)))]) (fun _ => rfl) (fun  u22 H locs hp hP hD hS => ?_)
  refine r_astX F hK hP hD hS 1 3 3 2 rfl rfl rfl rfl (bw_vin (by decide)) dX1_init_44 (w1 := fun f23 => [(b, .inr (1, [.int 0, .ref q1, .ref q2])), (q1, .inl (cN, 4, .inr (.inr (.inr (.inr f23))))), (q2, .inl (cW, 4, .inr (.inr (.inr (.inr f20))))), (q21, .inr (2, [.int 0, .ref (u22.1 0), .ref (u22.1 1), .ref (u22.1 2), .ref (u22.1 3), .ref (u22.1 4), .ref (u22.1 5), .ref (u22.1 6), .ref (u22.1 7)])), ((u22.1 0), .inl (cI, 10, .inl (u22.2 0))), ((u22.1 1), .inl (cI, 10, .inl (u22.2 1))), ((u22.1 2), .inl (cI, 10, .inl (u22.2 2))), ((u22.1 6), .inl (cI, 20, .inl (u22.2 3))), ((u22.1 7), .inl (cI, 20, .inl (fun _ => 0)))]) (fun _ => rfl) (fun f23 H locs hP hD hS => ?_)
  have hP := bw_subP (isC := [0, 1, 2]) (wc := [(b, .inr (1, [.int 0, .ref q1, .ref q2])), (q1, .inl (cN, 4, .inr (.inr (.inr (.inr f23))))), (q2, .inl (cW, 4, .inr (.inr (.inr (.inr f20)))))]) hP rfl
  have hD := hD.sub (ws' := [(b, .inr (1, [.int 0, .ref q1, .ref q2])), (q1, .inl (cN, 4, .inr (.inr (.inr (.inr f23))))), (q2, .inl (cW, 4, .inr (.inr (.inr (.inr f20)))))]) [0, 1, 2] (by decide) rfl
  refine lv_aload_n hx hb dX1_init_45 rfl (lv_at hl 1 rfl) ?_
  refine r_get F hK hP 0 2 rfl rfl in_X1 (by decide) k_486 rfl dX1_init_46 ?_
  refine lv_iload_n hx hb dX1_init_49 rfl (lv_at hl 0 rfl) ?_
  refine r_new (ci := 6) (fs := [.int 0, .int 0, .int 0, .int 0, .int 0, .null, .null, .null, .long 0, .null]) F hK hP hD hS hA rfl in_X6 tyX6 tyX6_ok k_478 k_315 k_102 (bw_dflt rfl) (Nat.le_of_ble_eq_true rfl) (Nat.le_of_ble_eq_true rfl) dX1_init_50 (w1 := fun q24 => [(b, .inr (1, [.int 0, .ref q1, .ref q2])), (q1, .inl (cN, 4, .inr (.inr (.inr (.inr f23))))), (q2, .inl (cW, 4, .inr (.inr (.inr (.inr f20))))), (q24, .inr (6, [.int 0, .int 0, .int 0, .int 0, .int 0, .null, .null, .null, .long 0, .null]))]) (fun _ => rfl) (fun q24 H hP hD hS => ?_)
  refine lv_dup hx hb dX1_init_53 rfl ?_
  refine r_callNv (As := []) (rest := [.ref q24, .int 3, .ref q2]) (wr := [(b, .inr (1, [.int 0, .ref q1, .ref q2])), (q1, .inl (cN, 4, .inr (.inr (.inr (.inr f23))))), (q2, .inl (cW, 4, .inr (.inr (.inr (.inr f20)))))]) F hK hP hD hS hA hO hE (c_X6_init hO q24) (hN _ _ hE).2.2.2.2.2.2.2.1 ki_X6_init rfl 0 rfl (by decide +kernel) ⟨Nat.le_of_ble_eq_true rfl, Nat.le_of_ble_eq_true rfl⟩ [3] [0, 1, 2] rfl rfl (by decide) (by decide) (by decide) hl.1 rfl (Nat.le_of_ble_eq_true rfl) dX1_init_54 ⟨Nat.le_of_ble_eq_true rfl, Nat.le_of_ble_eq_true rfl⟩ (w1 := fun u25 => [(b, .inr (1, [.int 0, .ref q1, .ref q2])), (q1, .inl (cN, 4, .inr (.inr (.inr (.inr f23))))), (q2, .inl (cW, 4, .inr (.inr (.inr (.inr f20))))), (q24, .inr (6, [.int 0, .int 0, .int 0, .int 0, .int 0, .ref (u25.1 0), .ref (u25.1 1), .ref (u25.1 2), .long 0, .ref (u25.1 3)]))]) (fun _ => rfl) (fun  u25 H locs hp hP hD hS => ?_)
  refine r_astX F hK hP hD hS 2 4 3 6 rfl rfl rfl rfl (bw_vin (by decide)) dX1_init_57 (w1 := fun f26 => [(b, .inr (1, [.int 0, .ref q1, .ref q2])), (q1, .inl (cN, 4, .inr (.inr (.inr (.inr f23))))), (q2, .inl (cW, 4, .inr (.inr (.inr (.inr f26))))), (q24, .inr (6, [.int 0, .int 0, .int 0, .int 0, .int 0, .ref (u25.1 0), .ref (u25.1 1), .ref (u25.1 2), .long 0, .ref (u25.1 3)]))]) (fun _ => rfl) (fun f26 H locs hP hD hS => ?_)
  have hP := bw_subP (isC := [0, 1, 2]) (wc := [(b, .inr (1, [.int 0, .ref q1, .ref q2])), (q1, .inl (cN, 4, .inr (.inr (.inr (.inr f23))))), (q2, .inl (cW, 4, .inr (.inr (.inr (.inr f26)))))]) hP rfl
  have hD := hD.sub (ws' := [(b, .inr (1, [.int 0, .ref q1, .ref q2])), (q1, .inl (cN, 4, .inr (.inr (.inr (.inr f23))))), (q2, .inl (cW, 4, .inr (.inr (.inr (.inr f26)))))]) [0, 1, 2] (by decide) rfl
  refine lv_iinc (v := 4) (lv' := [(1, .int 4), (0, .ref b)]) hx hb dX1_init_58 hl (k := 0) rfl (by decide) (by decide) rfl (fun ls hl => ?_)
  refine lv_goto (tgt := 27) hx hb dX1_init_61 (by decide) ?_
  refine lv_iload_n hx hb dX1_init_27 rfl (lv_at hl 0 rfl) ?_
  refine lv_iconst (v := 4) hx hb dX1_init_28 (by decide) ?_
  refine lv_icmp_ge (tgt := 64) hx hb dX1_init_29 (by decide) (fun _ => ?_) (fun h9 => absurd (by decide) h9)
  exact ret ((fun k => [q1, q2].getD k 0), fun _ _ => 0) _ _ _ _ _ _ trivial (bw_subP (isC := [0]) hP rfl) (hD.sub [0] (by decide) rfl) hS (Nat.le_of_ble_eq_true rfl) (Nat.le_of_ble_eq_true rfl) dX1_init_64
theorem dX3_init_0 : decode cX3_init 0 = .ok (.aload_n 0, 1) := by decide +kernel
theorem dX3_init_1 : decode cX3_init 1 = .ok (.invokespecial 3, 3) := by decide +kernel
theorem k_129 : Cond.methodLink RX3 3 Lib.objectInit ∈ bw_T := bw_m 129 (by decide +kernel) rfl
theorem dX3_init_4 : decode cX3_init 4 = .ok (.aload_n 0, 1) := by decide +kernel
theorem dX3_init_5 : decode cX3_init 5 = .ok (.sipush 900, 3) := by decide +kernel
theorem dX3_init_8 : decode cX3_init 8 = .ok (.newarray .byte, 2) := by decide +kernel
theorem k_193 : Cond.arrayClass .byte ∈ bw_T := bw_m 193 (by decide +kernel) rfl
theorem dX3_init_10 : decode cX3_init 10 = .ok (.putfield 9, 3) := by decide +kernel
theorem k_261 : Cond.fieldLink RX3 9 "BurntWays$Reader" "tape" "[B" ∈ bw_T := bw_m 261 (by decide +kernel) rfl
theorem in_X3 : ∀ w ∈ wsX30, w ∈ bw_T := bw_ms _ [280, 282, 284, 286, 288, 290, 292, 294, 296, 298, 300, 302, 304, 306] (by decide +kernel) (by decide +kernel)
theorem dX3_init_13 : decode cX3_init 13 = .ok (.aload_n 0, 1) := by decide +kernel
theorem dX3_init_14 : decode cX3_init 14 = .ok (.iconst 0, 1) := by decide +kernel
theorem dX3_init_15 : decode cX3_init 15 = .ok (.putfield 15, 3) := by decide +kernel
theorem k_262 : Cond.fieldLink RX3 15 "BurntWays$Reader" "tapeLength" "I" ∈ bw_T := bw_m 262 (by decide +kernel) rfl
theorem dX3_init_18 : decode cX3_init 18 = .ok (.aload_n 0, 1) := by decide +kernel
theorem dX3_init_19 : decode cX3_init 19 = .ok (.new 19, 3) := by decide +kernel
theorem k_130 : Cond.classLink RX3 19 RX2 ∈ bw_T := bw_m 130 (by decide +kernel) rfl
theorem dX3_init_22 : decode cX3_init 22 = .ok (.dup, 1) := by decide +kernel
theorem dX3_init_23 : decode cX3_init 23 = .ok (.invokespecial 21, 3) := by decide +kernel
theorem k_132 : Cond.methodLink RX3 21 yX2_init ∈ bw_T := bw_m 132 (by decide +kernel) rfl
theorem dX3_init_26 : decode cX3_init 26 = .ok (.putfield 22, 3) := by decide +kernel
theorem k_264 : Cond.fieldLink RX3 22 "BurntWays$Reader" "net" "LBurntWays$Net;" ∈ bw_T := bw_m 264 (by decide +kernel) rfl
theorem dX3_init_29 : decode cX3_init 29 = .ok (.aload_n 0, 1) := by decide +kernel
theorem dX3_init_30 : decode cX3_init 30 = .ok (.new 26, 3) := by decide +kernel
theorem k_195 : Cond.classLink RX3 26 RX7 ∈ bw_T := bw_m 195 (by decide +kernel) rfl
theorem k_196 : Cond.instantiable RX7 2 ∈ bw_T := bw_m 196 (by decide +kernel) rfl
theorem k_97 : Cond.initialized RX7 ∈ bw_T := bw_m 97 (by decide +kernel) rfl
theorem dX3_init_33 : decode cX3_init 33 = .ok (.dup, 1) := by decide +kernel
theorem dX3_init_34 : decode cX3_init 34 = .ok (.invokespecial 28, 3) := by decide +kernel
theorem ki_X7_init : bw_KI RX7 yX7_init (Cond.code yX7_init cX7_init 1 none) := ⟨bw_m 198 (by decide +kernel) rfl, bw_m 97 (by decide +kernel) rfl, bw_m 199 (by decide +kernel) rfl⟩
theorem dX3_init_37 : decode cX3_init 37 = .ok (.putfield 29, 3) := by decide +kernel
theorem k_266 : Cond.fieldLink RX3 29 "BurntWays$Reader" "wants" "LBurntWays$Wants;" ∈ bw_T := bw_m 266 (by decide +kernel) rfl
theorem dX3_init_40 : decode cX3_init 40 = .ok (.aload_n 0, 1) := by decide +kernel
theorem dX3_init_41 : decode cX3_init 41 = .ok (.iconst 0, 1) := by decide +kernel
theorem dX3_init_42 : decode cX3_init 42 = .ok (.putfield 33, 3) := by decide +kernel
theorem k_268 : Cond.fieldLink RX3 33 "BurntWays$Reader" "fault" "I" ∈ bw_T := bw_m 268 (by decide +kernel) rfl
theorem dX3_init_45 : decode cX3_init 45 = .ok (.aload_n 0, 1) := by decide +kernel
theorem dX3_init_46 : decode cX3_init 46 = .ok (.iconst 0, 1) := by decide +kernel
theorem dX3_init_47 : decode cX3_init 47 = .ok (.putfield 36, 3) := by decide +kernel
theorem k_270 : Cond.fieldLink RX3 36 "BurntWays$Reader" "faultPlace" "I" ∈ bw_T := bw_m 270 (by decide +kernel) rfl
theorem dX3_init_50 : decode cX3_init 50 = .ok (.aload_n 0, 1) := by decide +kernel
theorem dX3_init_51 : decode cX3_init 51 = .ok (.bipush 19, 2) := by decide +kernel
theorem dX3_init_53 : decode cX3_init 53 = .ok (.newarray .long, 2) := by decide +kernel
theorem k_309 : Cond.arrayClass .long ∈ bw_T := bw_m 309 (by decide +kernel) rfl
theorem dX3_init_55 : decode cX3_init 55 = .ok (.putfield 39, 3) := by decide +kernel
theorem k_272 : Cond.fieldLink RX3 39 "BurntWays$Reader" "reserved" "[J" ∈ bw_T := bw_m 272 (by decide +kernel) rfl
theorem dX3_init_58 : decode cX3_init 58 = .ok (.aload_n 0, 1) := by decide +kernel
theorem dX3_init_59 : decode cX3_init 59 = .ok (.bipush 10, 2) := by decide +kernel
theorem dX3_init_61 : decode cX3_init 61 = .ok (.newarray .long, 2) := by decide +kernel
theorem dX3_init_63 : decode cX3_init 63 = .ok (.putfield 43, 3) := by decide +kernel
theorem k_273 : Cond.fieldLink RX3 43 "BurntWays$Reader" "names" "[J" ∈ bw_T := bw_m 273 (by decide +kernel) rfl
theorem dX3_init_66 : decode cX3_init 66 = .ok (.aload_n 0, 1) := by decide +kernel
theorem dX3_init_67 : decode cX3_init 67 = .ok (.iconst 0, 1) := by decide +kernel
theorem dX3_init_68 : decode cX3_init 68 = .ok (.putfield 46, 3) := by decide +kernel
theorem k_274 : Cond.fieldLink RX3 46 "BurntWays$Reader" "textLength" "I" ∈ bw_T := bw_m 274 (by decide +kernel) rfl
theorem dX3_init_71 : decode cX3_init 71 = .ok (.aload_n 0, 1) := by decide +kernel
theorem dX3_init_72 : decode cX3_init 72 = .ok (.bipush 24, 2) := by decide +kernel
theorem dX3_init_74 : decode cX3_init 74 = .ok (.putfield 49, 3) := by decide +kernel
theorem k_275 : Cond.fieldLink RX3 49 "BurntWays$Reader" "kind" "I" ∈ bw_T := bw_m 275 (by decide +kernel) rfl
theorem dX3_init_77 : decode cX3_init 77 = .ok (.aload_n 0, 1) := by decide +kernel
theorem dX3_init_78 : decode cX3_init 78 = .ok (.iconst 0, 1) := by decide +kernel
theorem dX3_init_79 : decode cX3_init 79 = .ok (.putfield 52, 3) := by decide +kernel
theorem k_276 : Cond.fieldLink RX3 52 "BurntWays$Reader" "place" "I" ∈ bw_T := bw_m 276 (by decide +kernel) rfl
theorem dX3_init_82 : decode cX3_init 82 = .ok (.aload_n 0, 1) := by decide +kernel
theorem dX3_init_83 : decode cX3_init 83 = .ok (.iconst 0, 1) := by decide +kernel
theorem dX3_init_84 : decode cX3_init 84 = .ok (.putfield 55, 3) := by decide +kernel
theorem k_277 : Cond.fieldLink RX3 55 "BurntWays$Reader" "behind" "I" ∈ bw_T := bw_m 277 (by decide +kernel) rfl
theorem dX3_init_87 : decode cX3_init 87 = .ok (.aload_n 0, 1) := by decide +kernel
theorem dX3_init_88 : decode cX3_init 88 = .ok (.lconst 0, 1) := by decide +kernel
theorem dX3_init_89 : decode cX3_init 89 = .ok (.putfield 58, 3) := by decide +kernel
theorem k_278 : Cond.fieldLink RX3 58 "BurntWays$Reader" "word" "J" ∈ bw_T := bw_m 278 (by decide +kernel) rfl
theorem dX3_init_92 : decode cX3_init 92 = .ok (.aload_n 0, 1) := by decide +kernel
theorem dX3_init_93 : decode cX3_init 93 = .ok (.iconst 0, 1) := by decide +kernel
theorem dX3_init_94 : decode cX3_init 94 = .ok (.putfield 62, 3) := by decide +kernel
theorem k_279 : Cond.fieldLink RX3 62 "BurntWays$Reader" "number" "I" ∈ bw_T := bw_m 279 (by decide +kernel) rfl
theorem dX3_init_97 : decode cX3_init 97 = .ok (.iconst 0, 1) := by decide +kernel
theorem dX3_init_98 : decode cX3_init 98 = .ok (.istore_n 1, 1) := by decide +kernel
theorem dX3_init_99 : decode cX3_init 99 = .ok (.iconst 0, 1) := by decide +kernel
theorem dX3_init_100 : decode cX3_init 100 = .ok (.istore_n 2, 1) := by decide +kernel
theorem dX3_init_101 : decode cX3_init 101 = .ok (.iload_n 2, 1) := by decide +kernel
theorem dX3_init_102 : decode cX3_init 102 = .ok (.ldc 65, 2) := by decide +kernel
theorem dX3_init_104 : decode cX3_init 104 = .ok (.invokevirtual 67, 3) := by decide +kernel
theorem k_212 : Cond.methodLink RX3 67 yJ0_length_8abf5 ∈ bw_T := bw_m 212 (by decide +kernel) rfl
theorem kv_J0_length_8abf5 : bw_KV RJ0 yJ0_length_8abf5 (Cond.code yJ0_length_8abf5 cJ0_length_8abf5 1 (some .int)) := ⟨bw_m 213 (by decide +kernel) rfl, bw_m 214 (by decide +kernel) rfl, bw_m 98 (by decide +kernel) rfl, bw_m 215 (by decide +kernel) rfl⟩
theorem dX3_init_107 : decode cX3_init 107 = .ok (.if_icmp .ge 56, 3) := by decide +kernel
theorem dX3_init_163 : decode cX3_init 163 = .ok (.return_, 1) := by decide +kernel
theorem dX3_init_110 : decode cX3_init 110 = .ok (.iload_n 1, 1) := by decide +kernel
theorem dX3_init_111 : decode cX3_init 111 = .ok (.bipush 19, 2) := by decide +kernel
theorem dX3_init_113 : decode cX3_init 113 = .ok (.if_icmp .ge 50, 3) := by decide +kernel
theorem dX3_init_116 : decode cX3_init 116 = .ok (.ldc 65, 2) := by decide +kernel
theorem dX3_init_118 : decode cX3_init 118 = .ok (.iload_n 2, 1) := by decide +kernel
theorem dX3_init_119 : decode cX3_init 119 = .ok (.invokevirtual 73, 3) := by decide +kernel
theorem k_222 : Cond.methodLink RX3 73 yJ0_charAt_5068e ∈ bw_T := bw_m 222 (by decide +kernel) rfl
theorem kv_J0_charAt_5068e : bw_KV RJ0 yJ0_charAt_5068e (Cond.code yJ0_charAt_5068e cJ0_charAt_5068e 2 (some .char)) := ⟨bw_m 223 (by decide +kernel) rfl, bw_m 224 (by decide +kernel) rfl, bw_m 98 (by decide +kernel) rfl, bw_m 225 (by decide +kernel) rfl⟩
theorem dX3_init_122 : decode cX3_init 122 = .ok (.istore_n 3, 1) := by decide +kernel
theorem dX3_init_123 : decode cX3_init 123 = .ok (.iload_n 3, 1) := by decide +kernel
theorem dX3_init_124 : decode cX3_init 124 = .ok (.bipush 32, 2) := by decide +kernel
theorem dX3_init_126 : decode cX3_init 126 = .ok (.if_icmp .ne 9, 3) := by decide +kernel
theorem dX3_init_135 : decode cX3_init 135 = .ok (.aload_n 0, 1) := by decide +kernel
theorem dX3_init_136 : decode cX3_init 136 = .ok (.getfield 39, 3) := by decide +kernel
theorem dX3_init_139 : decode cX3_init 139 = .ok (.iload_n 1, 1) := by decide +kernel
theorem dX3_init_140 : decode cX3_init 140 = .ok (.aload_n 0, 1) := by decide +kernel
theorem dX3_init_141 : decode cX3_init 141 = .ok (.getfield 39, 3) := by decide +kernel
theorem dX3_init_144 : decode cX3_init 144 = .ok (.iload_n 1, 1) := by decide +kernel
theorem dX3_init_145 : decode cX3_init 145 = .ok (.laload, 1) := by decide +kernel
theorem dX3_init_146 : decode cX3_init 146 = .ok (.ldc2_w 77, 3) := by decide +kernel
theorem k_260 : Cond.constantLong RX3 77 (32) ∈ bw_T := bw_m 260 (by decide +kernel) rfl
theorem dX3_init_149 : decode cX3_init 149 = .ok (.lmul, 1) := by decide +kernel
theorem dX3_init_150 : decode cX3_init 150 = .ok (.iload_n 3, 1) := by decide +kernel
theorem dX3_init_151 : decode cX3_init 151 = .ok (.bipush 96, 2) := by decide +kernel
theorem dX3_init_153 : decode cX3_init 153 = .ok (.isub, 1) := by decide +kernel
theorem dX3_init_154 : decode cX3_init 154 = .ok (.i2l, 1) := by decide +kernel
theorem dX3_init_155 : decode cX3_init 155 = .ok (.ladd, 1) := by decide +kernel
theorem dX3_init_156 : decode cX3_init 156 = .ok (.lastore, 1) := by decide +kernel
theorem dX3_init_157 : decode cX3_init 157 = .ok (.iinc 2 1, 3) := by decide +kernel
theorem dX3_init_160 : decode cX3_init 160 = .ok (.goto (-59), 3) := by decide +kernel
theorem dX3_init_129 : decode cX3_init 129 = .ok (.iinc 1 1, 3) := by decide +kernel
theorem dX3_init_132 : decode cX3_init 132 = .ok (.goto 25, 3) := by decide +kernel
abbrev rm_X3_init : Room := { frames := 4, cells := 14, slots := 1160, locals := 85 }
set_option maxRecDepth 100000 in
set_option maxHeartbeats 4000000 in
theorem c_X3_init {l : Launch} {E : (Nat → Prop) → State → Prop} (hO : bw_Ok E) {G : va_G} {cI cB cJ cN cW : ClassId} (hN : bw_Nests E) {sa va N : Nat} {fb : Nat → Int32} (hT : bw_Text E sa va N fb) (b : Nat) : bw_Cv (S := bw_U) l yX3_init (bw_ws (Cond.code yX3_init cX3_init 4 none)) rm_X3_init E G (bw_kt cI cB cJ cN cW) [.ref b] [(b, .inr (3, [.null, .int 0, .null, .null, .int 0, .int 0, .null, .null, .int 0, .int 0, .int 0, .int 0, .long 0, .int 0]))] (fun _ => True) (fun u => [(b, .inr (3, [.ref (u.1 0), .int 0, .ref (u.1 1), .ref (u.1 2), .int 0, .int 0, .ref (u.1 3), .ref (u.1 4), .int 0, .int 24, .int 0, .int 0, .long 0, .int 0])), ((u.1 0), .inl (cB, 900, .inl (fun _ => 0))), ((u.1 1), .inr (2, [.int 0, .ref (u.1 5), .ref (u.1 6), .ref (u.1 7), .ref (u.1 8), .ref (u.1 9), .ref (u.1 10), .ref (u.1 11), .ref (u.1 12)])), ((u.1 5), .inl (cI, 10, .inl (u.2 0))), ((u.1 6), .inl (cI, 10, .inl (u.2 1))), ((u.1 7), .inl (cI, 10, .inl (u.2 2))), ((u.1 11), .inl (cI, 20, .inl (u.2 3))), ((u.1 12), .inl (cI, 20, .inl (fun _ => 0))), ((u.1 2), .inr (7, [.int 0, .ref (u.1 13)]))]) := by
  refine bw_Cv.of (cc := cX3_init) (maxL := 4) (by decide) rfl (Nat.le_of_ble_eq_true rfl) ?_
  intro p e s m below meth c A Q hx hb hml hts hown hin hK hA hS hP hD hE ret ls hl
  have F : CallFix p m c cX3_init 4 s ([.ref b] : List Value).toArray bw_T RX3 := ⟨hx, hb, hml, hown, fun w h => hts w (List.mem_cons_of_mem _ h)⟩
  have hl : lv_has ls 4 [(0, .ref b)] := hl
  refine lv_aload_n hx hb dX3_init_0 rfl (lv_at hl 0 rfl) ?_
  refine r_objInit F k_129 k_oi k_oc hl.1 dX3_init_1 (Nat.le_of_ble_eq_true rfl) (Nat.le_of_ble_eq_true rfl) ?_
  refine lv_aload_n hx hb dX3_init_4 rfl (lv_at hl 0 rfl) ?_
  refine lv_sipush (v := 900) hx hb dX3_init_5 (by decide) ?_
  refine r_newa (atype := .byte) (ty := .byte) F rfl k_193 hK hP hD hS hA 1 rfl 900 (900, .inl (fun _ => 0)) (bw_cB 900) (by decide) (by decide) (bw_by (k := 1) rfl (by omega)) (Nat.le_of_ble_eq_true rfl) (Nat.le_of_ble_eq_true rfl) dX3_init_8 (w1 := fun q1 => [(b, .inr (3, [.null, .int 0, .null, .null, .int 0, .int 0, .null, .null, .int 0, .int 0, .int 0, .int 0, .long 0, .int 0])), (q1, .inl (cB, 900, .inl (fun _ => 0)))]) (fun _ => rfl) (fun q1 H hP hD hS => ?_)
  refine r_putF F hK hP hD hS 0 0 rfl rfl in_X3 tyX3 tyX3_ok nmX3 (by decide) k_261 rfl hin rfl rfl rfl (Nat.le_of_ble_eq_true rfl) dX3_init_10 (w1 := [(b, .inr (3, [.ref q1, .int 0, .null, .null, .int 0, .int 0, .null, .null, .int 0, .int 0, .int 0, .int 0, .long 0, .int 0])), (q1, .inl (cB, 900, .inl (fun _ => 0)))]) rfl (fun H locs hP hD hS => ?_)
  refine lv_aload_n hx hb dX3_init_13 rfl (lv_at hl 0 rfl) ?_
  refine lv_iconst (v := 0) hx hb dX3_init_14 (by decide) ?_
  refine r_put F hK hP hD hS 0 1 rfl rfl in_X3 tyX3 tyX3_ok nmX3 (by decide) k_262 rfl rfl rfl (Nat.le_of_ble_eq_true rfl) dX3_init_15 (w1 := [(b, .inr (3, [.ref q1, .int 0, .null, .null, .int 0, .int 0, .null, .null, .int 0, .int 0, .int 0, .int 0, .long 0, .int 0])), (q1, .inl (cB, 900, .inl (fun _ => 0)))]) rfl (fun H locs hP hD hS => ?_)
  refine lv_aload_n hx hb dX3_init_18 rfl (lv_at hl 0 rfl) ?_
  refine r_new (ci := 2) (fs := [.int 0, .null, .null, .null, .null, .null, .null, .null, .null]) F hK hP hD hS hA rfl in_X2 tyX2 tyX2_ok k_130 k_131 k_96 (bw_dflt rfl) (Nat.le_of_ble_eq_true rfl) (Nat.le_of_ble_eq_true rfl) dX3_init_19 (w1 := fun q2 => [(b, .inr (3, [.ref q1, .int 0, .null, .null, .int 0, .int 0, .null, .null, .int 0, .int 0, .int 0, .int 0, .long 0, .int 0])), (q1, .inl (cB, 900, .inl (fun _ => 0))), (q2, .inr (2, [.int 0, .null, .null, .null, .null, .null, .null, .null, .null]))]) (fun _ => rfl) (fun q2 H hP hD hS => ?_)
  refine lv_dup hx hb dX3_init_22 rfl ?_
  refine r_callIv (As := []) (rest := [.ref q2, .ref b]) (wr := [(b, .inr (3, [.ref q1, .int 0, .null, .null, .int 0, .int 0, .null, .null, .int 0, .int 0, .int 0, .int 0, .long 0, .int 0])), (q1, .inl (cB, 900, .inl (fun _ => 0)))]) F hK hP hD hS hA hO hE (c_X2_init hO q2) k_132 ki_X2_init rfl 0 rfl (by decide +kernel) ⟨Nat.le_of_ble_eq_true rfl, Nat.le_of_ble_eq_true rfl⟩ [2] [0, 1] rfl rfl (by decide) (by decide) (by decide) hl.1 rfl (Nat.le_of_ble_eq_true rfl) dX3_init_23 ⟨Nat.le_of_ble_eq_true rfl, Nat.le_of_ble_eq_true rfl⟩ (w1 := fun u3 => [(b, .inr (3, [.ref q1, .int 0, .null, .null, .int 0, .int 0, .null, .null, .int 0, .int 0, .int 0, .int 0, .long 0, .int 0])), (q1, .inl (cB, 900, .inl (fun _ => 0))), (q2, .inr (2, [.int 0, .ref (u3.1 0), .ref (u3.1 1), .ref (u3.1 2), .ref (u3.1 3), .ref (u3.1 4), .ref (u3.1 5), .ref (u3.1 6), .ref (u3.1 7)])), ((u3.1 0), .inl (cI, 10, .inl (u3.2 0))), ((u3.1 1), .inl (cI, 10, .inl (u3.2 1))), ((u3.1 2), .inl (cI, 10, .inl (u3.2 2))), ((u3.1 6), .inl (cI, 20, .inl (u3.2 3))), ((u3.1 7), .inl (cI, 20, .inl (fun _ => 0)))]) (fun _ => rfl) (fun  u3 H locs hp hP hD hS => ?_)
  refine r_putF F hK hP hD hS 0 2 rfl rfl in_X3 tyX3 tyX3_ok nmX3 (by decide) k_264 rfl hin rfl rfl rfl (Nat.le_of_ble_eq_true rfl) dX3_init_26 (w1 := [(b, .inr (3, [.ref q1, .int 0, .ref q2, .null, .int 0, .int 0, .null, .null, .int 0, .int 0, .int 0, .int 0, .long 0, .int 0])), (q1, .inl (cB, 900, .inl (fun _ => 0))), (q2, .inr (2, [.int 0, .ref (u3.1 0), .ref (u3.1 1), .ref (u3.1 2), .ref (u3.1 3), .ref (u3.1 4), .ref (u3.1 5), .ref (u3.1 6), .ref (u3.1 7)])), ((u3.1 0), .inl (cI, 10, .inl (u3.2 0))), ((u3.1 1), .inl (cI, 10, .inl (u3.2 1))), ((u3.1 2), .inl (cI, 10, .inl (u3.2 2))), ((u3.1 6), .inl (cI, 20, .inl (u3.2 3))), ((u3.1 7), .inl (cI, 20, .inl (fun _ => 0)))]) rfl (fun H locs hP hD hS => ?_)
  refine lv_aload_n hx hb dX3_init_29 rfl (lv_at hl 0 rfl) ?_
  refine r_new (ci := 7) (fs := [.int 0, .null]) F hK hP hD hS hA rfl in_X7 tyX7 tyX7_ok k_195 k_196 k_97 (bw_dflt rfl) (Nat.le_of_ble_eq_true rfl) (Nat.le_of_ble_eq_true rfl) dX3_init_30 (w1 := fun q4 => [(b, .inr (3, [.ref q1, .int 0, .ref q2, .null, .int 0, .int 0, .null, .null, .int 0, .int 0, .int 0, .int 0, .long 0, .int 0])), (q1, .inl (cB, 900, .inl (fun _ => 0))), (q2, .inr (2, [.int 0, .ref (u3.1 0), .ref (u3.1 1), .ref (u3.1 2), .ref (u3.1 3), .ref (u3.1 4), .ref (u3.1 5), .ref (u3.1 6), .ref (u3.1 7)])), ((u3.1 0), .inl (cI, 10, .inl (u3.2 0))), ((u3.1 1), .inl (cI, 10, .inl (u3.2 1))), ((u3.1 2), .inl (cI, 10, .inl (u3.2 2))), ((u3.1 6), .inl (cI, 20, .inl (u3.2 3))), ((u3.1 7), .inl (cI, 20, .inl (fun _ => 0))), (q4, .inr (7, [.int 0, .null]))]) (fun _ => rfl) (fun q4 H hP hD hS => ?_)
  refine lv_dup hx hb dX3_init_33 rfl ?_
  refine r_callNv (As := []) (rest := [.ref q4, .ref b]) (wr := [(b, .inr (3, [.ref q1, .int 0, .ref q2, .null, .int 0, .int 0, .null, .null, .int 0, .int 0, .int 0, .int 0, .long 0, .int 0])), (q1, .inl (cB, 900, .inl (fun _ => 0))), (q2, .inr (2, [.int 0, .ref (u3.1 0), .ref (u3.1 1), .ref (u3.1 2), .ref (u3.1 3), .ref (u3.1 4), .ref (u3.1 5), .ref (u3.1 6), .ref (u3.1 7)])), ((u3.1 0), .inl (cI, 10, .inl (u3.2 0))), ((u3.1 1), .inl (cI, 10, .inl (u3.2 1))), ((u3.1 2), .inl (cI, 10, .inl (u3.2 2))), ((u3.1 6), .inl (cI, 20, .inl (u3.2 3))), ((u3.1 7), .inl (cI, 20, .inl (fun _ => 0)))]) F hK hP hD hS hA hO hE (c_X7_init hO q4) (hN _ _ hE).1 ki_X7_init rfl 0 rfl (by decide +kernel) ⟨Nat.le_of_ble_eq_true rfl, Nat.le_of_ble_eq_true rfl⟩ [8] [0, 1, 2, 3, 4, 5, 6, 7] rfl rfl (by decide) (by decide) (by decide) hl.1 rfl (Nat.le_of_ble_eq_true rfl) dX3_init_34 ⟨Nat.le_of_ble_eq_true rfl, Nat.le_of_ble_eq_true rfl⟩ (w1 := fun u5 => [(b, .inr (3, [.ref q1, .int 0, .ref q2, .null, .int 0, .int 0, .null, .null, .int 0, .int 0, .int 0, .int 0, .long 0, .int 0])), (q1, .inl (cB, 900, .inl (fun _ => 0))), (q2, .inr (2, [.int 0, .ref (u3.1 0), .ref (u3.1 1), .ref (u3.1 2), .ref (u3.1 3), .ref (u3.1 4), .ref (u3.1 5), .ref (u3.1 6), .ref (u3.1 7)])), ((u3.1 0), .inl (cI, 10, .inl (u3.2 0))), ((u3.1 1), .inl (cI, 10, .inl (u3.2 1))), ((u3.1 2), .inl (cI, 10, .inl (u3.2 2))), ((u3.1 6), .inl (cI, 20, .inl (u3.2 3))), ((u3.1 7), .inl (cI, 20, .inl (fun _ => 0))), (q4, .inr (7, [.int 0, .ref (u5.1 0)]))]) (fun _ => rfl) (fun  u5 H locs hp hP hD hS => ?_)
  refine r_putF F hK hP hD hS 0 3 rfl rfl in_X3 tyX3 tyX3_ok nmX3 (by decide) k_266 rfl hin rfl rfl rfl (Nat.le_of_ble_eq_true rfl) dX3_init_37 (w1 := [(b, .inr (3, [.ref q1, .int 0, .ref q2, .ref q4, .int 0, .int 0, .null, .null, .int 0, .int 0, .int 0, .int 0, .long 0, .int 0])), (q1, .inl (cB, 900, .inl (fun _ => 0))), (q2, .inr (2, [.int 0, .ref (u3.1 0), .ref (u3.1 1), .ref (u3.1 2), .ref (u3.1 3), .ref (u3.1 4), .ref (u3.1 5), .ref (u3.1 6), .ref (u3.1 7)])), ((u3.1 0), .inl (cI, 10, .inl (u3.2 0))), ((u3.1 1), .inl (cI, 10, .inl (u3.2 1))), ((u3.1 2), .inl (cI, 10, .inl (u3.2 2))), ((u3.1 6), .inl (cI, 20, .inl (u3.2 3))), ((u3.1 7), .inl (cI, 20, .inl (fun _ => 0))), (q4, .inr (7, [.int 0, .ref (u5.1 0)]))]) rfl (fun H locs hP hD hS => ?_)
  refine lv_aload_n hx hb dX3_init_40 rfl (lv_at hl 0 rfl) ?_
  refine lv_iconst (v := 0) hx hb dX3_init_41 (by decide) ?_
  refine r_put F hK hP hD hS 0 4 rfl rfl in_X3 tyX3 tyX3_ok nmX3 (by decide) k_268 rfl rfl rfl (Nat.le_of_ble_eq_true rfl) dX3_init_42 (w1 := [(b, .inr (3, [.ref q1, .int 0, .ref q2, .ref q4, .int 0, .int 0, .null, .null, .int 0, .int 0, .int 0, .int 0, .long 0, .int 0])), (q1, .inl (cB, 900, .inl (fun _ => 0))), (q2, .inr (2, [.int 0, .ref (u3.1 0), .ref (u3.1 1), .ref (u3.1 2), .ref (u3.1 3), .ref (u3.1 4), .ref (u3.1 5), .ref (u3.1 6), .ref (u3.1 7)])), ((u3.1 0), .inl (cI, 10, .inl (u3.2 0))), ((u3.1 1), .inl (cI, 10, .inl (u3.2 1))), ((u3.1 2), .inl (cI, 10, .inl (u3.2 2))), ((u3.1 6), .inl (cI, 20, .inl (u3.2 3))), ((u3.1 7), .inl (cI, 20, .inl (fun _ => 0))), (q4, .inr (7, [.int 0, .ref (u5.1 0)]))]) rfl (fun H locs hP hD hS => ?_)
  refine lv_aload_n hx hb dX3_init_45 rfl (lv_at hl 0 rfl) ?_
  refine lv_iconst (v := 0) hx hb dX3_init_46 (by decide) ?_
  refine r_put F hK hP hD hS 0 5 rfl rfl in_X3 tyX3 tyX3_ok nmX3 (by decide) k_270 rfl rfl rfl (Nat.le_of_ble_eq_true rfl) dX3_init_47 (w1 := [(b, .inr (3, [.ref q1, .int 0, .ref q2, .ref q4, .int 0, .int 0, .null, .null, .int 0, .int 0, .int 0, .int 0, .long 0, .int 0])), (q1, .inl (cB, 900, .inl (fun _ => 0))), (q2, .inr (2, [.int 0, .ref (u3.1 0), .ref (u3.1 1), .ref (u3.1 2), .ref (u3.1 3), .ref (u3.1 4), .ref (u3.1 5), .ref (u3.1 6), .ref (u3.1 7)])), ((u3.1 0), .inl (cI, 10, .inl (u3.2 0))), ((u3.1 1), .inl (cI, 10, .inl (u3.2 1))), ((u3.1 2), .inl (cI, 10, .inl (u3.2 2))), ((u3.1 6), .inl (cI, 20, .inl (u3.2 3))), ((u3.1 7), .inl (cI, 20, .inl (fun _ => 0))), (q4, .inr (7, [.int 0, .ref (u5.1 0)]))]) rfl (fun H locs hP hD hS => ?_)
  refine lv_aload_n hx hb dX3_init_50 rfl (lv_at hl 0 rfl) ?_
  refine lv_bipush (v := 19) hx hb dX3_init_51 (by decide) ?_
  refine r_newa (atype := .long) (ty := .long) F rfl k_309 hK hP hD hS hA 2 rfl 19 (19, .inr (.inl (fun _ => 0))) (bw_cJ 19) (by decide) (by decide) (bw_by (k := 8) rfl (by omega)) (Nat.le_of_ble_eq_true rfl) (Nat.le_of_ble_eq_true rfl) dX3_init_53 (w1 := fun q6 => [(b, .inr (3, [.ref q1, .int 0, .ref q2, .ref q4, .int 0, .int 0, .null, .null, .int 0, .int 0, .int 0, .int 0, .long 0, .int 0])), (q1, .inl (cB, 900, .inl (fun _ => 0))), (q2, .inr (2, [.int 0, .ref (u3.1 0), .ref (u3.1 1), .ref (u3.1 2), .ref (u3.1 3), .ref (u3.1 4), .ref (u3.1 5), .ref (u3.1 6), .ref (u3.1 7)])), ((u3.1 0), .inl (cI, 10, .inl (u3.2 0))), ((u3.1 1), .inl (cI, 10, .inl (u3.2 1))), ((u3.1 2), .inl (cI, 10, .inl (u3.2 2))), ((u3.1 6), .inl (cI, 20, .inl (u3.2 3))), ((u3.1 7), .inl (cI, 20, .inl (fun _ => 0))), (q4, .inr (7, [.int 0, .ref (u5.1 0)])), (q6, .inl (cJ, 19, .inr (.inl (fun _ => 0))))]) (fun _ => rfl) (fun q6 H hP hD hS => ?_)
  refine r_putF F hK hP hD hS 0 6 rfl rfl in_X3 tyX3 tyX3_ok nmX3 (by decide) k_272 rfl hin rfl rfl rfl (Nat.le_of_ble_eq_true rfl) dX3_init_55 (w1 := [(b, .inr (3, [.ref q1, .int 0, .ref q2, .ref q4, .int 0, .int 0, .ref q6, .null, .int 0, .int 0, .int 0, .int 0, .long 0, .int 0])), (q1, .inl (cB, 900, .inl (fun _ => 0))), (q2, .inr (2, [.int 0, .ref (u3.1 0), .ref (u3.1 1), .ref (u3.1 2), .ref (u3.1 3), .ref (u3.1 4), .ref (u3.1 5), .ref (u3.1 6), .ref (u3.1 7)])), ((u3.1 0), .inl (cI, 10, .inl (u3.2 0))), ((u3.1 1), .inl (cI, 10, .inl (u3.2 1))), ((u3.1 2), .inl (cI, 10, .inl (u3.2 2))), ((u3.1 6), .inl (cI, 20, .inl (u3.2 3))), ((u3.1 7), .inl (cI, 20, .inl (fun _ => 0))), (q4, .inr (7, [.int 0, .ref (u5.1 0)])), (q6, .inl (cJ, 19, .inr (.inl (fun _ => 0))))]) rfl (fun H locs hP hD hS => ?_)
  refine lv_aload_n hx hb dX3_init_58 rfl (lv_at hl 0 rfl) ?_
  refine lv_bipush (v := 10) hx hb dX3_init_59 (by decide) ?_
  refine r_newa (atype := .long) (ty := .long) F rfl k_309 hK hP hD hS hA 2 rfl 10 (10, .inr (.inl (fun _ => 0))) (bw_cJ 10) (by decide) (by decide) (bw_by (k := 8) rfl (by omega)) (Nat.le_of_ble_eq_true rfl) (Nat.le_of_ble_eq_true rfl) dX3_init_61 (w1 := fun q7 => [(b, .inr (3, [.ref q1, .int 0, .ref q2, .ref q4, .int 0, .int 0, .ref q6, .null, .int 0, .int 0, .int 0, .int 0, .long 0, .int 0])), (q1, .inl (cB, 900, .inl (fun _ => 0))), (q2, .inr (2, [.int 0, .ref (u3.1 0), .ref (u3.1 1), .ref (u3.1 2), .ref (u3.1 3), .ref (u3.1 4), .ref (u3.1 5), .ref (u3.1 6), .ref (u3.1 7)])), ((u3.1 0), .inl (cI, 10, .inl (u3.2 0))), ((u3.1 1), .inl (cI, 10, .inl (u3.2 1))), ((u3.1 2), .inl (cI, 10, .inl (u3.2 2))), ((u3.1 6), .inl (cI, 20, .inl (u3.2 3))), ((u3.1 7), .inl (cI, 20, .inl (fun _ => 0))), (q4, .inr (7, [.int 0, .ref (u5.1 0)])), (q6, .inl (cJ, 19, .inr (.inl (fun _ => 0)))), (q7, .inl (cJ, 10, .inr (.inl (fun _ => 0))))]) (fun _ => rfl) (fun q7 H hP hD hS => ?_)
  refine r_putF F hK hP hD hS 0 7 rfl rfl in_X3 tyX3 tyX3_ok nmX3 (by decide) k_273 rfl hin rfl rfl rfl (Nat.le_of_ble_eq_true rfl) dX3_init_63 (w1 := [(b, .inr (3, [.ref q1, .int 0, .ref q2, .ref q4, .int 0, .int 0, .ref q6, .ref q7, .int 0, .int 0, .int 0, .int 0, .long 0, .int 0])), (q1, .inl (cB, 900, .inl (fun _ => 0))), (q2, .inr (2, [.int 0, .ref (u3.1 0), .ref (u3.1 1), .ref (u3.1 2), .ref (u3.1 3), .ref (u3.1 4), .ref (u3.1 5), .ref (u3.1 6), .ref (u3.1 7)])), ((u3.1 0), .inl (cI, 10, .inl (u3.2 0))), ((u3.1 1), .inl (cI, 10, .inl (u3.2 1))), ((u3.1 2), .inl (cI, 10, .inl (u3.2 2))), ((u3.1 6), .inl (cI, 20, .inl (u3.2 3))), ((u3.1 7), .inl (cI, 20, .inl (fun _ => 0))), (q4, .inr (7, [.int 0, .ref (u5.1 0)])), (q6, .inl (cJ, 19, .inr (.inl (fun _ => 0)))), (q7, .inl (cJ, 10, .inr (.inl (fun _ => 0))))]) rfl (fun H locs hP hD hS => ?_)
  refine lv_aload_n hx hb dX3_init_66 rfl (lv_at hl 0 rfl) ?_
  refine lv_iconst (v := 0) hx hb dX3_init_67 (by decide) ?_
  refine r_put F hK hP hD hS 0 8 rfl rfl in_X3 tyX3 tyX3_ok nmX3 (by decide) k_274 rfl rfl rfl (Nat.le_of_ble_eq_true rfl) dX3_init_68 (w1 := [(b, .inr (3, [.ref q1, .int 0, .ref q2, .ref q4, .int 0, .int 0, .ref q6, .ref q7, .int 0, .int 0, .int 0, .int 0, .long 0, .int 0])), (q1, .inl (cB, 900, .inl (fun _ => 0))), (q2, .inr (2, [.int 0, .ref (u3.1 0), .ref (u3.1 1), .ref (u3.1 2), .ref (u3.1 3), .ref (u3.1 4), .ref (u3.1 5), .ref (u3.1 6), .ref (u3.1 7)])), ((u3.1 0), .inl (cI, 10, .inl (u3.2 0))), ((u3.1 1), .inl (cI, 10, .inl (u3.2 1))), ((u3.1 2), .inl (cI, 10, .inl (u3.2 2))), ((u3.1 6), .inl (cI, 20, .inl (u3.2 3))), ((u3.1 7), .inl (cI, 20, .inl (fun _ => 0))), (q4, .inr (7, [.int 0, .ref (u5.1 0)])), (q6, .inl (cJ, 19, .inr (.inl (fun _ => 0)))), (q7, .inl (cJ, 10, .inr (.inl (fun _ => 0))))]) rfl (fun H locs hP hD hS => ?_)
  refine lv_aload_n hx hb dX3_init_71 rfl (lv_at hl 0 rfl) ?_
  refine lv_bipush (v := 24) hx hb dX3_init_72 (by decide) ?_
  refine r_put F hK hP hD hS 0 9 rfl rfl in_X3 tyX3 tyX3_ok nmX3 (by decide) k_275 rfl rfl rfl (Nat.le_of_ble_eq_true rfl) dX3_init_74 (w1 := [(b, .inr (3, [.ref q1, .int 0, .ref q2, .ref q4, .int 0, .int 0, .ref q6, .ref q7, .int 0, .int 24, .int 0, .int 0, .long 0, .int 0])), (q1, .inl (cB, 900, .inl (fun _ => 0))), (q2, .inr (2, [.int 0, .ref (u3.1 0), .ref (u3.1 1), .ref (u3.1 2), .ref (u3.1 3), .ref (u3.1 4), .ref (u3.1 5), .ref (u3.1 6), .ref (u3.1 7)])), ((u3.1 0), .inl (cI, 10, .inl (u3.2 0))), ((u3.1 1), .inl (cI, 10, .inl (u3.2 1))), ((u3.1 2), .inl (cI, 10, .inl (u3.2 2))), ((u3.1 6), .inl (cI, 20, .inl (u3.2 3))), ((u3.1 7), .inl (cI, 20, .inl (fun _ => 0))), (q4, .inr (7, [.int 0, .ref (u5.1 0)])), (q6, .inl (cJ, 19, .inr (.inl (fun _ => 0)))), (q7, .inl (cJ, 10, .inr (.inl (fun _ => 0))))]) rfl (fun H locs hP hD hS => ?_)
  refine lv_aload_n hx hb dX3_init_77 rfl (lv_at hl 0 rfl) ?_
  refine lv_iconst (v := 0) hx hb dX3_init_78 (by decide) ?_
  refine r_put F hK hP hD hS 0 10 rfl rfl in_X3 tyX3 tyX3_ok nmX3 (by decide) k_276 rfl rfl rfl (Nat.le_of_ble_eq_true rfl) dX3_init_79 (w1 := [(b, .inr (3, [.ref q1, .int 0, .ref q2, .ref q4, .int 0, .int 0, .ref q6, .ref q7, .int 0, .int 24, .int 0, .int 0, .long 0, .int 0])), (q1, .inl (cB, 900, .inl (fun _ => 0))), (q2, .inr (2, [.int 0, .ref (u3.1 0), .ref (u3.1 1), .ref (u3.1 2), .ref (u3.1 3), .ref (u3.1 4), .ref (u3.1 5), .ref (u3.1 6), .ref (u3.1 7)])), ((u3.1 0), .inl (cI, 10, .inl (u3.2 0))), ((u3.1 1), .inl (cI, 10, .inl (u3.2 1))), ((u3.1 2), .inl (cI, 10, .inl (u3.2 2))), ((u3.1 6), .inl (cI, 20, .inl (u3.2 3))), ((u3.1 7), .inl (cI, 20, .inl (fun _ => 0))), (q4, .inr (7, [.int 0, .ref (u5.1 0)])), (q6, .inl (cJ, 19, .inr (.inl (fun _ => 0)))), (q7, .inl (cJ, 10, .inr (.inl (fun _ => 0))))]) rfl (fun H locs hP hD hS => ?_)
  refine lv_aload_n hx hb dX3_init_82 rfl (lv_at hl 0 rfl) ?_
  refine lv_iconst (v := 0) hx hb dX3_init_83 (by decide) ?_
  refine r_put F hK hP hD hS 0 11 rfl rfl in_X3 tyX3 tyX3_ok nmX3 (by decide) k_277 rfl rfl rfl (Nat.le_of_ble_eq_true rfl) dX3_init_84 (w1 := [(b, .inr (3, [.ref q1, .int 0, .ref q2, .ref q4, .int 0, .int 0, .ref q6, .ref q7, .int 0, .int 24, .int 0, .int 0, .long 0, .int 0])), (q1, .inl (cB, 900, .inl (fun _ => 0))), (q2, .inr (2, [.int 0, .ref (u3.1 0), .ref (u3.1 1), .ref (u3.1 2), .ref (u3.1 3), .ref (u3.1 4), .ref (u3.1 5), .ref (u3.1 6), .ref (u3.1 7)])), ((u3.1 0), .inl (cI, 10, .inl (u3.2 0))), ((u3.1 1), .inl (cI, 10, .inl (u3.2 1))), ((u3.1 2), .inl (cI, 10, .inl (u3.2 2))), ((u3.1 6), .inl (cI, 20, .inl (u3.2 3))), ((u3.1 7), .inl (cI, 20, .inl (fun _ => 0))), (q4, .inr (7, [.int 0, .ref (u5.1 0)])), (q6, .inl (cJ, 19, .inr (.inl (fun _ => 0)))), (q7, .inl (cJ, 10, .inr (.inl (fun _ => 0))))]) rfl (fun H locs hP hD hS => ?_)
  refine lv_aload_n hx hb dX3_init_87 rfl (lv_at hl 0 rfl) ?_
  refine lv_lconst (v := 0) hx hb dX3_init_88 rfl ?_
  refine r_put F hK hP hD hS 0 12 rfl rfl in_X3 tyX3 tyX3_ok nmX3 (by decide) k_278 rfl rfl rfl (Nat.le_of_ble_eq_true rfl) dX3_init_89 (w1 := [(b, .inr (3, [.ref q1, .int 0, .ref q2, .ref q4, .int 0, .int 0, .ref q6, .ref q7, .int 0, .int 24, .int 0, .int 0, .long 0, .int 0])), (q1, .inl (cB, 900, .inl (fun _ => 0))), (q2, .inr (2, [.int 0, .ref (u3.1 0), .ref (u3.1 1), .ref (u3.1 2), .ref (u3.1 3), .ref (u3.1 4), .ref (u3.1 5), .ref (u3.1 6), .ref (u3.1 7)])), ((u3.1 0), .inl (cI, 10, .inl (u3.2 0))), ((u3.1 1), .inl (cI, 10, .inl (u3.2 1))), ((u3.1 2), .inl (cI, 10, .inl (u3.2 2))), ((u3.1 6), .inl (cI, 20, .inl (u3.2 3))), ((u3.1 7), .inl (cI, 20, .inl (fun _ => 0))), (q4, .inr (7, [.int 0, .ref (u5.1 0)])), (q6, .inl (cJ, 19, .inr (.inl (fun _ => 0)))), (q7, .inl (cJ, 10, .inr (.inl (fun _ => 0))))]) rfl (fun H locs hP hD hS => ?_)
  refine lv_aload_n hx hb dX3_init_92 rfl (lv_at hl 0 rfl) ?_
  refine lv_iconst (v := 0) hx hb dX3_init_93 (by decide) ?_
  refine r_put F hK hP hD hS 0 13 rfl rfl in_X3 tyX3 tyX3_ok nmX3 (by decide) k_279 rfl rfl rfl (Nat.le_of_ble_eq_true rfl) dX3_init_94 (w1 := [(b, .inr (3, [.ref q1, .int 0, .ref q2, .ref q4, .int 0, .int 0, .ref q6, .ref q7, .int 0, .int 24, .int 0, .int 0, .long 0, .int 0])), (q1, .inl (cB, 900, .inl (fun _ => 0))), (q2, .inr (2, [.int 0, .ref (u3.1 0), .ref (u3.1 1), .ref (u3.1 2), .ref (u3.1 3), .ref (u3.1 4), .ref (u3.1 5), .ref (u3.1 6), .ref (u3.1 7)])), ((u3.1 0), .inl (cI, 10, .inl (u3.2 0))), ((u3.1 1), .inl (cI, 10, .inl (u3.2 1))), ((u3.1 2), .inl (cI, 10, .inl (u3.2 2))), ((u3.1 6), .inl (cI, 20, .inl (u3.2 3))), ((u3.1 7), .inl (cI, 20, .inl (fun _ => 0))), (q4, .inr (7, [.int 0, .ref (u5.1 0)])), (q6, .inl (cJ, 19, .inr (.inl (fun _ => 0)))), (q7, .inl (cJ, 10, .inr (.inl (fun _ => 0))))]) rfl (fun H locs hP hD hS => ?_)
  refine lv_iconst (v := 0) hx hb dX3_init_97 (by decide) ?_
  refine lv_istore_n (lv' := [(1, .int 0), (0, .ref b)]) hx hb dX3_init_98 rfl hl (by decide) rfl (fun ls hl => ?_)
  refine lv_iconst (v := 0) hx hb dX3_init_99 (by decide) ?_
  refine lv_istore_n (lv' := [(2, .int 0), (1, .int 0), (0, .ref b)]) hx hb dX3_init_100 rfl hl (by decide) rfl (fun ls hl => ?_)
  refine W.widen (k := 14) (n := 1160) (Nat.le_of_ble_eq_true rfl) (Nat.le_of_ble_eq_true rfl) ?_
  refine (?_ : ∀ (n k a : Nat) (fz : Nat → Int64) (H : Heap) (locs : List Loc), k ≤ N → N + 1 ≤ k + n → a ≤ 19 → va_P G vwCl [(b, .inr (3, [.ref q1, .int 0, .ref q2, .ref q4, .int 0, .int 0, .ref q6, .ref q7, .int 0, .int 24, .int 0, .int 0, .long 0, .int 0])), (q1, .inl (cB, 900, .inl (fun _ => 0))), (q2, .inr (2, [.int 0, .ref (u3.1 0), .ref (u3.1 1), .ref (u3.1 2), .ref (u3.1 3), .ref (u3.1 4), .ref (u3.1 5), .ref (u3.1 6), .ref (u3.1 7)])), ((u3.1 0), .inl (cI, 10, .inl (u3.2 0))), ((u3.1 1), .inl (cI, 10, .inl (u3.2 1))), ((u3.1 2), .inl (cI, 10, .inl (u3.2 2))), ((u3.1 6), .inl (cI, 20, .inl (u3.2 3))), ((u3.1 7), .inl (cI, 20, .inl (fun _ => 0))), (q4, .inr (7, [.int 0, .ref (u5.1 0)])), (q6, .inl (cJ, 19, .inr (.inl fz))), (q7, .inl (cJ, 10, .inr (.inl (fun _ => 0))))] H → va_D A [(b, .inr (3, [.ref q1, .int 0, .ref q2, .ref q4, .int 0, .int 0, .ref q6, .ref q7, .int 0, .int 24, .int 0, .int 0, .long 0, .int 0])), (q1, .inl (cB, 900, .inl (fun _ => 0))), (q2, .inr (2, [.int 0, .ref (u3.1 0), .ref (u3.1 1), .ref (u3.1 2), .ref (u3.1 3), .ref (u3.1 4), .ref (u3.1 5), .ref (u3.1 6), .ref (u3.1 7)])), ((u3.1 0), .inl (cI, 10, .inl (u3.2 0))), ((u3.1 1), .inl (cI, 10, .inl (u3.2 1))), ((u3.1 2), .inl (cI, 10, .inl (u3.2 2))), ((u3.1 6), .inl (cI, 20, .inl (u3.2 3))), ((u3.1 7), .inl (cI, 20, .inl (fun _ => 0))), (q4, .inr (7, [.int 0, .ref (u5.1 0)])), (q6, .inl (cJ, 19, .inr (.inl fz))), (q7, .inl (cJ, 10, .inr (.inl (fun _ => 0))))] → va_S A s.heap H locs → ∀ ls : Array Slot, lv_has ls 4 [(2, .int (nI k)), (1, .int (nI a)), (0, .ref b)] → W p l e rm_X3_init s m ([.ref b] : List Value).toArray below meth c H locs 14 1160 Q (F0 m 101 ls [])) (N + 1) 0 0 _ _ _ (Nat.zero_le N) (by omega) (by omega) hP hD hS ls hl
  clear hP hD hS hl ls
  intro n
  induction n with
  | zero =>
    intro k a fz H locs h1 h2
    exact absurd h2 (by omega)
  | succ n ih =>
    intro k a fz H locs hk hn ha hP hD hS ls hl
    refine lv_iload_n hx hb dX3_init_101 rfl (lv_at hl 0 rfl) ?_
    refine va_ldcS hx hb hown (hT.2 _ _ hE).1 dX3_init_102 ?_
    refine r_callR (As := []) (rest := [.int (nI k)]) F hK hP hD hS hA hO hE (c_J0_length hO hT) k_212 kv_J0_length_8abf5 0 rfl (by decide +kernel) ⟨Nat.le_of_ble_eq_true rfl, Nat.le_of_ble_eq_true rfl⟩ [0, 1, 2, 3, 4, 5, 6, 7, 8, 9, 10] rfl (by decide) (by obtain ⟨cell, h1, h2, h3, _⟩ := ((hT.2 _ _ hE).2.1.1).kept hS.2.1; exact ⟨cell, h1, h2, h3⟩) hl.1 rfl (Nat.le_of_ble_eq_true rfl) dX3_init_104 ⟨Nat.le_of_ble_eq_true rfl, Nat.le_of_ble_eq_true rfl⟩ (fun r8 u9 H locs hp hP hD hS => ?_)
    subst hp
    refine lv_icmp_ge (tgt := 163) hx hb dX3_init_107 (by decide) (fun h7 => ?_) (fun h7 => ?_)
    · exact ret ((fun k => [q1, q2, q4, q6, q7, (u3.1 0), (u3.1 1), (u3.1 2), (u3.1 3), (u3.1 4), (u3.1 5), (u3.1 6), (u3.1 7), (u5.1 0)].getD k 0), (fun k => [(u3.2 0), (u3.2 1), (u3.2 2), (u3.2 3)].getD k (fun _ => 0))) _ _ _ _ _ _ trivial (bw_subP (isC := [0, 1, 2, 3, 4, 5, 6, 7, 8]) hP rfl) (hD.sub [0, 1, 2, 3, 4, 5, 6, 7, 8] (by decide) rfl) hS (Nat.le_of_ble_eq_true rfl) (Nat.le_of_ble_eq_true rfl) dX3_init_163
    · have hkN : k < N := by rcases Nat.lt_or_ge k N with q | q; exact q; exact absurd (nI_le q (by have := hT.1; omega)) h7
      refine lv_iload_n hx hb dX3_init_110 rfl (lv_at hl 1 rfl) ?_
      refine lv_bipush (v := 19) hx hb dX3_init_111 (by decide) ?_
      refine lv_icmp_ge (tgt := 163) hx hb dX3_init_113 (by decide) (fun h8 => ?_) (fun h8 => ?_)
      · exact ret ((fun k => [q1, q2, q4, q6, q7, (u3.1 0), (u3.1 1), (u3.1 2), (u3.1 3), (u3.1 4), (u3.1 5), (u3.1 6), (u3.1 7), (u5.1 0)].getD k 0), (fun k => [(u3.2 0), (u3.2 1), (u3.2 2), (u3.2 3)].getD k (fun _ => 0))) _ _ _ _ _ _ trivial (bw_subP (isC := [0, 1, 2, 3, 4, 5, 6, 7, 8]) hP rfl) (hD.sub [0, 1, 2, 3, 4, 5, 6, 7, 8] (by decide) rfl) hS (Nat.le_of_ble_eq_true rfl) (Nat.le_of_ble_eq_true rfl) dX3_init_163
      · have haN : a < 19 := by rcases Nat.lt_or_ge a 19 with q | q; exact q; exact absurd (nI_le (a := 19) q (by omega)) h8
        refine va_ldcS hx hb hown (hT.2 _ _ hE).1 dX3_init_116 ?_
        refine lv_iload_n hx hb dX3_init_118 rfl (lv_at hl 0 rfl) ?_
        refine r_callR (As := [.int (nI k)]) (rest := []) F hK hP hD hS hA hO hE (c_J0_charAt hO hT (nI k) (nI_pos (by have := hT.1; omega)) (nI_lt hkN hT.1)) k_222 kv_J0_charAt_5068e 1 rfl (by decide +kernel) ⟨Nat.le_of_ble_eq_true rfl, Nat.le_of_ble_eq_true rfl⟩ [0, 1, 2, 3, 4, 5, 6, 7, 8, 9, 10] rfl (by decide) (by obtain ⟨cell, h1, h2, h3, _⟩ := ((hT.2 _ _ hE).2.1.1).kept hS.2.1; exact ⟨cell, h1, h2, h3⟩) hl.1 rfl (Nat.le_of_ble_eq_true rfl) dX3_init_119 ⟨Nat.le_of_ble_eq_true rfl, Nat.le_of_ble_eq_true rfl⟩ (fun r10 u11 H locs hp hP hD hS => ?_)
        refine lv_istore_n (lv' := [(3, .int r10), (2, .int (nI k)), (1, .int (nI a)), (0, .ref b)]) hx hb dX3_init_122 rfl hl (by decide) rfl (fun ls hl => ?_)
        refine lv_iload_n hx hb dX3_init_123 rfl (lv_at hl 0 rfl) ?_
        refine lv_bipush (v := 32) hx hb dX3_init_124 (by decide) ?_
        refine lv_icmp_ne (tgt := 135) hx hb dX3_init_126 (by decide) (fun h9 => ?_) (fun h9 => ?_)
        · refine lv_aload_n hx hb dX3_init_135 rfl (lv_at hl 3 rfl) ?_
          refine r_get F hK hP 0 6 rfl rfl in_X3 (by decide) k_272 rfl dX3_init_136 ?_
          refine lv_iload_n hx hb dX3_init_139 rfl (lv_at hl 2 rfl) ?_
          refine lv_aload_n hx hb dX3_init_140 rfl (lv_at hl 3 rfl) ?_
          refine r_get F hK hP 0 6 rfl rfl in_X3 (by decide) k_272 rfl dX3_init_141 ?_
          refine lv_iload_n hx hb dX3_init_144 rfl (lv_at hl 2 rfl) ?_
          refine r_lald F hK hP 9 2 rfl rfl (vp_in_nI haN (by omega)) dX3_init_145 (fun z12 => ?_)
          refine lv_ldc2 hx hb hown (F.2.2.2.2 _ k_260) dX3_init_146 ?_
          refine lv_lmul hx hb dX3_init_149 ?_
          refine lv_topl (fun z13 _ => ?_)
          refine lv_iload_n hx hb dX3_init_150 rfl (lv_at hl 0 rfl) ?_
          refine lv_bipush (v := 96) hx hb dX3_init_151 (by decide) ?_
          refine r_isub (v := (r10 - 96)) F dX3_init_153 rfl ?_
          refine lv_i2l (v := ((r10 - 96)).toInt64) hx hb dX3_init_154 rfl ?_
          refine lv_ladd hx hb dX3_init_155 ?_
          refine lv_topl (fun z14 _ => ?_)
          refine r_lastX F hK hP hD hS 9 2 rfl rfl (vp_in_nI haN (by omega)) dX3_init_156 (w1 := fun f15 => [(b, .inr (3, [.ref q1, .int 0, .ref q2, .ref q4, .int 0, .int 0, .ref q6, .ref q7, .int 0, .int 24, .int 0, .int 0, .long 0, .int 0])), (q1, .inl (cB, 900, .inl (fun _ => 0))), (q2, .inr (2, [.int 0, .ref (u3.1 0), .ref (u3.1 1), .ref (u3.1 2), .ref (u3.1 3), .ref (u3.1 4), .ref (u3.1 5), .ref (u3.1 6), .ref (u3.1 7)])), ((u3.1 0), .inl (cI, 10, .inl (u3.2 0))), ((u3.1 1), .inl (cI, 10, .inl (u3.2 1))), ((u3.1 2), .inl (cI, 10, .inl (u3.2 2))), ((u3.1 6), .inl (cI, 20, .inl (u3.2 3))), ((u3.1 7), .inl (cI, 20, .inl (fun _ => 0))), (q4, .inr (7, [.int 0, .ref (u5.1 0)])), (q6, .inl (cJ, 19, .inr (.inl f15))), (q7, .inl (cJ, 10, .inr (.inl (fun _ => 0))))]) (fun _ => rfl) (fun f15 H locs hP hD hS => ?_)
          refine lv_iinc (v := (nI (k + 1))) (lv' := [(2, .int (nI (k + 1))), (3, .int r10), (1, .int (nI a)), (0, .ref b)]) hx hb dX3_init_157 hl (k := 1) rfl (nI_1 k) (by decide) rfl (fun ls hl => ?_)
          refine lv_goto (tgt := 101) hx hb dX3_init_160 (by decide) ?_
          exact ih (k + 1) a f15 _ _ (by omega) (by omega) (by omega) hP hD hS ls (lv_sub hl [0, 2, 3] rfl)
        · refine lv_iinc (v := (nI (a + 1))) (lv' := [(1, .int (nI (a + 1))), (3, .int r10), (2, .int (nI k)), (0, .ref b)]) hx hb dX3_init_129 hl (k := 2) rfl (nI_1 a) (by decide) rfl (fun ls hl => ?_)
          refine lv_goto (tgt := 157) hx hb dX3_init_132 (by decide) ?_
          refine lv_iinc (v := (nI (k + 1))) (lv' := [(2, .int (nI (k + 1))), (1, .int (nI (a + 1))), (3, .int r10), (0, .ref b)]) hx hb dX3_init_157 hl (k := 2) rfl (nI_1 k) (by decide) rfl (fun ls hl => ?_)
          refine lv_goto (tgt := 101) hx hb dX3_init_160 (by decide) ?_
          exact ih (k + 1) (a + 1) fz _ _ (by omega) (by omega) (by omega) hP hD hS ls (lv_sub hl [0, 1, 3] rfl)
end
section
theorem dX8_init_0 : decode cX8_init 0 = .ok (.aload_n 0, 1) := by decide +kernel
theorem dX8_init_1 : decode cX8_init 1 = .ok (.invokespecial 3, 3) := by decide +kernel
theorem k_121 : Cond.methodLink RX8 3 Lib.objectInit ∈ bw_T := bw_m 121 (by decide +kernel) rfl
theorem dX8_init_4 : decode cX8_init 4 = .ok (.aload_n 0, 1) := by decide +kernel
theorem dX8_init_5 : decode cX8_init 5 = .ok (.iconst 0, 1) := by decide +kernel
theorem dX8_init_6 : decode cX8_init 6 = .ok (.putfield 9, 3) := by decide +kernel
theorem k_495 : Cond.fieldLink RX8 9 "BurntWays" "latestTrouble" "I" ∈ bw_T := bw_m 495 (by decide +kernel) rfl
theorem in_X8 : ∀ w ∈ wsX80, w ∈ bw_T := bw_ms _ [509, 511, 513, 515, 517, 519, 521, 523, 525, 527, 529, 531, 533, 535] (by decide +kernel) (by decide +kernel)
theorem dX8_init_9 : decode cX8_init 9 = .ok (.aload_n 0, 1) := by decide +kernel
theorem dX8_init_10 : decode cX8_init 10 = .ok (.iconst 0, 1) := by decide +kernel
theorem dX8_init_11 : decode cX8_init 11 = .ok (.putfield 13, 3) := by decide +kernel
theorem k_496 : Cond.fieldLink RX8 13 "BurntWays" "loaded" "Z" ∈ bw_T := bw_m 496 (by decide +kernel) rfl
theorem dX8_init_14 : decode cX8_init 14 = .ok (.aload_n 0, 1) := by decide +kernel
theorem dX8_init_15 : decode cX8_init 15 = .ok (.new 17, 3) := by decide +kernel
theorem k_124 : Cond.classLink RX8 17 RX3 ∈ bw_T := bw_m 124 (by decide +kernel) rfl
theorem k_125 : Cond.instantiable RX3 14 ∈ bw_T := bw_m 125 (by decide +kernel) rfl
theorem k_95 : Cond.initialized RX3 ∈ bw_T := bw_m 95 (by decide +kernel) rfl
theorem dX8_init_18 : decode cX8_init 18 = .ok (.dup, 1) := by decide +kernel
theorem dX8_init_19 : decode cX8_init 19 = .ok (.invokespecial 19, 3) := by decide +kernel
theorem k_126 : Cond.methodLink RX8 19 yX3_init ∈ bw_T := bw_m 126 (by decide +kernel) rfl
theorem ki_X3_init : bw_KI RX3 yX3_init (Cond.code yX3_init cX3_init 4 none) := ⟨bw_m 127 (by decide +kernel) rfl, bw_m 95 (by decide +kernel) rfl, bw_m 128 (by decide +kernel) rfl⟩
theorem dX8_init_22 : decode cX8_init 22 = .ok (.putfield 20, 3) := by decide +kernel
theorem k_497 : Cond.fieldLink RX8 20 "BurntWays" "reader" "LBurntWays$Reader;" ∈ bw_T := bw_m 497 (by decide +kernel) rfl
theorem dX8_init_25 : decode cX8_init 25 = .ok (.aload_n 0, 1) := by decide +kernel
theorem dX8_init_26 : decode cX8_init 26 = .ok (.new 24, 3) := by decide +kernel
theorem k_310 : Cond.classLink RX8 24 RX2 ∈ bw_T := bw_m 310 (by decide +kernel) rfl
theorem dX8_init_29 : decode cX8_init 29 = .ok (.dup, 1) := by decide +kernel
theorem dX8_init_30 : decode cX8_init 30 = .ok (.invokespecial 26, 3) := by decide +kernel
theorem k_311 : Cond.methodLink RX8 26 yX2_init ∈ bw_T := bw_m 311 (by decide +kernel) rfl
theorem dX8_init_33 : decode cX8_init 33 = .ok (.putfield 27, 3) := by decide +kernel
theorem k_498 : Cond.fieldLink RX8 27 "BurntWays" "toldNet" "LBurntWays$Net;" ∈ bw_T := bw_m 498 (by decide +kernel) rfl
theorem dX8_init_36 : decode cX8_init 36 = .ok (.aload_n 0, 1) := by decide +kernel
theorem dX8_init_37 : decode cX8_init 37 = .ok (.new 24, 3) := by decide +kernel
theorem dX8_init_40 : decode cX8_init 40 = .ok (.dup, 1) := by decide +kernel
theorem dX8_init_41 : decode cX8_init 41 = .ok (.invokespecial 26, 3) := by decide +kernel
theorem dX8_init_44 : decode cX8_init 44 = .ok (.putfield 31, 3) := by decide +kernel
theorem k_499 : Cond.fieldLink RX8 31 "BurntWays" "net" "LBurntWays$Net;" ∈ bw_T := bw_m 499 (by decide +kernel) rfl
theorem dX8_init_47 : decode cX8_init 47 = .ok (.aload_n 0, 1) := by decide +kernel
theorem dX8_init_48 : decode cX8_init 48 = .ok (.new 24, 3) := by decide +kernel
theorem dX8_init_51 : decode cX8_init 51 = .ok (.dup, 1) := by decide +kernel
theorem dX8_init_52 : decode cX8_init 52 = .ok (.invokespecial 26, 3) := by decide +kernel
theorem dX8_init_55 : decode cX8_init 55 = .ok (.putfield 34, 3) := by decide +kernel
theorem k_500 : Cond.fieldLink RX8 34 "BurntWays" "trialNet" "LBurntWays$Net;" ∈ bw_T := bw_m 500 (by decide +kernel) rfl
theorem dX8_init_58 : decode cX8_init 58 = .ok (.aload_n 0, 1) := by decide +kernel
theorem dX8_init_59 : decode cX8_init 59 = .ok (.new 37, 3) := by decide +kernel
theorem k_312 : Cond.classLink RX8 37 RX7 ∈ bw_T := bw_m 312 (by decide +kernel) rfl
theorem dX8_init_62 : decode cX8_init 62 = .ok (.dup, 1) := by decide +kernel
theorem dX8_init_63 : decode cX8_init 63 = .ok (.invokespecial 39, 3) := by decide +kernel
theorem dX8_init_66 : decode cX8_init 66 = .ok (.putfield 40, 3) := by decide +kernel
theorem k_501 : Cond.fieldLink RX8 40 "BurntWays" "wants" "LBurntWays$Wants;" ∈ bw_T := bw_m 501 (by decide +kernel) rfl
theorem dX8_init_69 : decode cX8_init 69 = .ok (.aload_n 0, 1) := by decide +kernel
theorem dX8_init_70 : decode cX8_init 70 = .ok (.new 44, 3) := by decide +kernel
theorem k_314 : Cond.classLink RX8 44 RX6 ∈ bw_T := bw_m 314 (by decide +kernel) rfl
theorem dX8_init_73 : decode cX8_init 73 = .ok (.dup, 1) := by decide +kernel
theorem dX8_init_74 : decode cX8_init 74 = .ok (.invokespecial 46, 3) := by decide +kernel
theorem dX8_init_77 : decode cX8_init 77 = .ok (.putfield 47, 3) := by decide +kernel
theorem k_502 : Cond.fieldLink RX8 47 "BurntWays" "walk" "LBurntWays$Walk;" ∈ bw_T := bw_m 502 (by decide +kernel) rfl
theorem dX8_init_80 : decode cX8_init 80 = .ok (.aload_n 0, 1) := by decide +kernel
theorem dX8_init_81 : decode cX8_init 81 = .ok (.new 44, 3) := by decide +kernel
theorem dX8_init_84 : decode cX8_init 84 = .ok (.dup, 1) := by decide +kernel
theorem dX8_init_85 : decode cX8_init 85 = .ok (.invokespecial 46, 3) := by decide +kernel
theorem dX8_init_88 : decode cX8_init 88 = .ok (.putfield 51, 3) := by decide +kernel
theorem k_503 : Cond.fieldLink RX8 51 "BurntWays" "trialWalk" "LBurntWays$Walk;" ∈ bw_T := bw_m 503 (by decide +kernel) rfl
theorem dX8_init_91 : decode cX8_init 91 = .ok (.aload_n 0, 1) := by decide +kernel
theorem dX8_init_92 : decode cX8_init 92 = .ok (.new 44, 3) := by decide +kernel
theorem dX8_init_95 : decode cX8_init 95 = .ok (.dup, 1) := by decide +kernel
theorem dX8_init_96 : decode cX8_init 96 = .ok (.invokespecial 46, 3) := by decide +kernel
theorem dX8_init_99 : decode cX8_init 99 = .ok (.putfield 54, 3) := by decide +kernel
theorem k_504 : Cond.fieldLink RX8 54 "BurntWays" "otherWalk" "LBurntWays$Walk;" ∈ bw_T := bw_m 504 (by decide +kernel) rfl
theorem dX8_init_102 : decode cX8_init 102 = .ok (.aload_n 0, 1) := by decide +kernel
theorem dX8_init_103 : decode cX8_init 103 = .ok (.new 57, 3) := by decide +kernel
theorem k_362 : Cond.classLink RX8 57 RX4 ∈ bw_T := bw_m 362 (by decide +kernel) rfl
theorem k_363 : Cond.instantiable RX4 13 ∈ bw_T := bw_m 363 (by decide +kernel) rfl
theorem k_103 : Cond.initialized RX4 ∈ bw_T := bw_m 103 (by decide +kernel) rfl
theorem dX8_init_106 : decode cX8_init 106 = .ok (.dup, 1) := by decide +kernel
theorem dX8_init_107 : decode cX8_init 107 = .ok (.invokespecial 59, 3) := by decide +kernel
theorem ki_X4_init : bw_KI RX4 yX4_init (Cond.code yX4_init cX4_init 1 none) := ⟨bw_m 365 (by decide +kernel) rfl, bw_m 103 (by decide +kernel) rfl, bw_m 366 (by decide +kernel) rfl⟩
theorem dX8_init_110 : decode cX8_init 110 = .ok (.putfield 60, 3) := by decide +kernel
theorem k_505 : Cond.fieldLink RX8 60 "BurntWays" "survey" "LBurntWays$Survey;" ∈ bw_T := bw_m 505 (by decide +kernel) rfl
theorem dX8_init_113 : decode cX8_init 113 = .ok (.aload_n 0, 1) := by decide +kernel
theorem dX8_init_114 : decode cX8_init 114 = .ok (.new 64, 3) := by decide +kernel
theorem k_420 : Cond.classLink RX8 64 RX5 ∈ bw_T := bw_m 420 (by decide +kernel) rfl
theorem k_421 : Cond.instantiable RX5 4 ∈ bw_T := bw_m 421 (by decide +kernel) rfl
theorem k_104 : Cond.initialized RX5 ∈ bw_T := bw_m 104 (by decide +kernel) rfl
theorem dX8_init_117 : decode cX8_init 117 = .ok (.dup, 1) := by decide +kernel
theorem dX8_init_118 : decode cX8_init 118 = .ok (.invokespecial 66, 3) := by decide +kernel
theorem ki_X5_init : bw_KI RX5 yX5_init (Cond.code yX5_init cX5_init 1 none) := ⟨bw_m 423 (by decide +kernel) rfl, bw_m 104 (by decide +kernel) rfl, bw_m 424 (by decide +kernel) rfl⟩
theorem dX8_init_121 : decode cX8_init 121 = .ok (.putfield 67, 3) := by decide +kernel
theorem k_506 : Cond.fieldLink RX8 67 "BurntWays" "trailRow" "LBurntWays$Trail;" ∈ bw_T := bw_m 506 (by decide +kernel) rfl
theorem dX8_init_124 : decode cX8_init 124 = .ok (.aload_n 0, 1) := by decide +kernel
theorem dX8_init_125 : decode cX8_init 125 = .ok (.new 71, 3) := by decide +kernel
theorem k_442 : Cond.classLink RX8 71 RX0 ∈ bw_T := bw_m 442 (by decide +kernel) rfl
theorem k_443 : Cond.instantiable RX0 7 ∈ bw_T := bw_m 443 (by decide +kernel) rfl
theorem k_105 : Cond.initialized RX0 ∈ bw_T := bw_m 105 (by decide +kernel) rfl
theorem dX8_init_128 : decode cX8_init 128 = .ok (.dup, 1) := by decide +kernel
theorem dX8_init_129 : decode cX8_init 129 = .ok (.invokespecial 73, 3) := by decide +kernel
theorem ki_X0_init : bw_KI RX0 yX0_init (Cond.code yX0_init cX0_init 1 none) := ⟨bw_m 445 (by decide +kernel) rfl, bw_m 105 (by decide +kernel) rfl, bw_m 446 (by decide +kernel) rfl⟩
theorem dX8_init_132 : decode cX8_init 132 = .ok (.putfield 74, 3) := by decide +kernel
theorem k_507 : Cond.fieldLink RX8 74 "BurntWays" "leastPrograms" "LBurntWays$Least;" ∈ bw_T := bw_m 507 (by decide +kernel) rfl
theorem dX8_init_135 : decode cX8_init 135 = .ok (.aload_n 0, 1) := by decide +kernel
theorem dX8_init_136 : decode cX8_init 136 = .ok (.new 78, 3) := by decide +kernel
theorem k_470 : Cond.classLink RX8 78 RX1 ∈ bw_T := bw_m 470 (by decide +kernel) rfl
theorem k_471 : Cond.instantiable RX1 3 ∈ bw_T := bw_m 471 (by decide +kernel) rfl
theorem k_106 : Cond.initialized RX1 ∈ bw_T := bw_m 106 (by decide +kernel) rfl
theorem dX8_init_139 : decode cX8_init 139 = .ok (.dup, 1) := by decide +kernel
theorem dX8_init_140 : decode cX8_init 140 = .ok (.invokespecial 80, 3) := by decide +kernel
theorem k_472 : Cond.methodLink RX8 80 yX1_init ∈ bw_T := bw_m 472 (by decide +kernel) rfl
theorem ki_X1_init : bw_KI RX1 yX1_init (Cond.code yX1_init cX1_init 2 none) := ⟨bw_m 473 (by decide +kernel) rfl, bw_m 106 (by decide +kernel) rfl, bw_m 474 (by decide +kernel) rfl⟩
theorem dX8_init_143 : decode cX8_init 143 = .ok (.putfield 81, 3) := by decide +kernel
theorem k_508 : Cond.fieldLink RX8 81 "BurntWays" "marks" "LBurntWays$Marks;" ∈ bw_T := bw_m 508 (by decide +kernel) rfl
theorem dX8_init_146 : decode cX8_init 146 = .ok (.return_, 1) := by decide +kernel
abbrev rm_X8_init : Room := { frames := 5, cells := 139, slots := 4414, locals := 108 }
set_option maxRecDepth 100000 in
set_option maxHeartbeats 4000000 in
theorem c_X8_init {l : Launch} {E : (Nat → Prop) → State → Prop} (hO : bw_Ok E) {G : va_G} {cI cB cJ cN cW : ClassId} (hN : bw_Nests E) {sa va N : Nat} {fb : Nat → Int32} (hT : bw_Text E sa va N fb) (b : Nat) : bw_Cv (S := bw_U) l yX8_init (bw_ws (Cond.code yX8_init cX8_init 1 none)) rm_X8_init E G (bw_kt cI cB cJ cN cW) [.ref b] [(b, .inr (8, [.int 0, .int 0, .null, .null, .null, .null, .null, .null, .null, .null, .null, .null, .null, .null]))] (fun _ => True) (fun u => [(b, .inr (8, [.int 0, .int 0, .ref (u.1 0), .ref (u.1 1), .ref (u.1 2), .ref (u.1 3), .ref (u.1 4), .ref (u.1 5), .ref (u.1 6), .ref (u.1 7), .ref (u.1 8), .ref (u.1 9), .ref (u.1 10), .ref (u.1 11)])), ((u.1 0), .inr (3, [.ref (u.1 20), .int 0, .ref (u.1 21), .ref (u.1 22), .int 0, .int 0, .ref (u.1 23), .ref (u.1 24), .int 0, .int 24, .int 0, .int 0, .long 0, .int 0])), ((u.1 20), .inl (cB, 900, .inl (fun _ => 0))), ((u.1 21), .inr (2, [.int 0, .ref (u.1 25), .ref (u.1 26), .ref (u.1 27), .ref (u.1 28), .ref (u.1 29), .ref (u.1 30), .ref (u.1 31), .ref (u.1 32)])), ((u.1 25), .inl (cI, 10, .inl (u.2 0))), ((u.1 26), .inl (cI, 10, .inl (u.2 1))), ((u.1 27), .inl (cI, 10, .inl (u.2 2))), ((u.1 31), .inl (cI, 20, .inl (u.2 3))), ((u.1 32), .inl (cI, 20, .inl (fun _ => 0))), ((u.1 22), .inr (7, [.int 0, .ref (u.1 33)])), ((u.1 2), .inr (2, [.int 0, .ref (u.1 40), .ref (u.1 41), .ref (u.1 42), .ref (u.1 43), .ref (u.1 44), .ref (u.1 45), .ref (u.1 46), .ref (u.1 47)])), ((u.1 47), .inl (cI, 20, .inl (fun _ => 0))), ((u.1 4), .inr (7, [.int 0, .ref (u.1 50)])), ((u.1 11), .inr (1, [.int 0, .ref (u.1 51), .ref (u.1 52)]))]) := by
  refine bw_Cv.of (cc := cX8_init) (maxL := 1) (by decide) rfl (Nat.le_of_ble_eq_true rfl) ?_
  intro p e s m below meth c A Q hx hb hml hts hown hin hK hA hS hP hD hE ret ls hl
  have F : CallFix p m c cX8_init 1 s ([.ref b] : List Value).toArray bw_T RX8 := ⟨hx, hb, hml, hown, fun w h => hts w (List.mem_cons_of_mem _ h)⟩
  have hl : lv_has ls 1 [(0, .ref b)] := hl
  refine lv_aload_n hx hb dX8_init_0 rfl (lv_at hl 0 rfl) ?_
  refine r_objInit F k_121 k_oi k_oc hl.1 dX8_init_1 (Nat.le_of_ble_eq_true rfl) (Nat.le_of_ble_eq_true rfl) ?_
  refine lv_aload_n hx hb dX8_init_4 rfl (lv_at hl 0 rfl) ?_
  refine lv_iconst (v := 0) hx hb dX8_init_5 (by decide) ?_
  refine r_put F hK hP hD hS 0 0 rfl rfl in_X8 tyX8 tyX8_ok nmX8 (by decide) k_495 rfl rfl rfl (Nat.le_of_ble_eq_true rfl) dX8_init_6 (w1 := [(b, .inr (8, [.int 0, .int 0, .null, .null, .null, .null, .null, .null, .null, .null, .null, .null, .null, .null]))]) rfl (fun H locs hP hD hS => ?_)
  refine lv_aload_n hx hb dX8_init_9 rfl (lv_at hl 0 rfl) ?_
  refine lv_iconst (v := 0) hx hb dX8_init_10 (by decide) ?_
  refine r_put F hK hP hD hS 0 1 rfl rfl in_X8 tyX8 tyX8_ok nmX8 (by decide) k_496 rfl rfl rfl (Nat.le_of_ble_eq_true rfl) dX8_init_11 (w1 := [(b, .inr (8, [.int 0, .int 0, .null, .null, .null, .null, .null, .null, .null, .null, .null, .null, .null, .null]))]) rfl (fun H locs hP hD hS => ?_)
  refine lv_aload_n hx hb dX8_init_14 rfl (lv_at hl 0 rfl) ?_
  refine r_new (ci := 3) (fs := [.null, .int 0, .null, .null, .int 0, .int 0, .null, .null, .int 0, .int 0, .int 0, .int 0, .long 0, .int 0]) F hK hP hD hS hA rfl in_X3 tyX3 tyX3_ok k_124 k_125 k_95 (bw_dflt rfl) (Nat.le_of_ble_eq_true rfl) (Nat.le_of_ble_eq_true rfl) dX8_init_15 (w1 := fun q1 => [(b, .inr (8, [.int 0, .int 0, .null, .null, .null, .null, .null, .null, .null, .null, .null, .null, .null, .null])), (q1, .inr (3, [.null, .int 0, .null, .null, .int 0, .int 0, .null, .null, .int 0, .int 0, .int 0, .int 0, .long 0, .int 0]))]) (fun _ => rfl) (fun q1 H hP hD hS => ?_)
  refine lv_dup hx hb dX8_init_18 rfl ?_
  refine r_callIv (As := []) (rest := [.ref q1, .ref b]) (wr := [(b, .inr (8, [.int 0, .int 0, .null, .null, .null, .null, .null, .null, .null, .null, .null, .null, .null, .null]))]) F hK hP hD hS hA hO hE (c_X3_init hO hN hT q1) k_126 ki_X3_init rfl 0 rfl (by decide +kernel) ⟨Nat.le_of_ble_eq_true rfl, Nat.le_of_ble_eq_true rfl⟩ [1] [0] rfl rfl (by decide) (by decide) (by decide) hl.1 rfl (Nat.le_of_ble_eq_true rfl) dX8_init_19 ⟨Nat.le_of_ble_eq_true rfl, Nat.le_of_ble_eq_true rfl⟩ (w1 := fun u2 => [(b, .inr (8, [.int 0, .int 0, .null, .null, .null, .null, .null, .null, .null, .null, .null, .null, .null, .null])), (q1, .inr (3, [.ref (u2.1 0), .int 0, .ref (u2.1 1), .ref (u2.1 2), .int 0, .int 0, .ref (u2.1 3), .ref (u2.1 4), .int 0, .int 24, .int 0, .int 0, .long 0, .int 0])), ((u2.1 0), .inl (cB, 900, .inl (fun _ => 0))), ((u2.1 1), .inr (2, [.int 0, .ref (u2.1 5), .ref (u2.1 6), .ref (u2.1 7), .ref (u2.1 8), .ref (u2.1 9), .ref (u2.1 10), .ref (u2.1 11), .ref (u2.1 12)])), ((u2.1 5), .inl (cI, 10, .inl (u2.2 0))), ((u2.1 6), .inl (cI, 10, .inl (u2.2 1))), ((u2.1 7), .inl (cI, 10, .inl (u2.2 2))), ((u2.1 11), .inl (cI, 20, .inl (u2.2 3))), ((u2.1 12), .inl (cI, 20, .inl (fun _ => 0))), ((u2.1 2), .inr (7, [.int 0, .ref (u2.1 13)]))]) (fun _ => rfl) (fun  u2 H locs hp hP hD hS => ?_)
  refine r_putF F hK hP hD hS 0 2 rfl rfl in_X8 tyX8 tyX8_ok nmX8 (by decide) k_497 rfl hin rfl rfl rfl (Nat.le_of_ble_eq_true rfl) dX8_init_22 (w1 := [(b, .inr (8, [.int 0, .int 0, .ref q1, .null, .null, .null, .null, .null, .null, .null, .null, .null, .null, .null])), (q1, .inr (3, [.ref (u2.1 0), .int 0, .ref (u2.1 1), .ref (u2.1 2), .int 0, .int 0, .ref (u2.1 3), .ref (u2.1 4), .int 0, .int 24, .int 0, .int 0, .long 0, .int 0])), ((u2.1 0), .inl (cB, 900, .inl (fun _ => 0))), ((u2.1 1), .inr (2, [.int 0, .ref (u2.1 5), .ref (u2.1 6), .ref (u2.1 7), .ref (u2.1 8), .ref (u2.1 9), .ref (u2.1 10), .ref (u2.1 11), .ref (u2.1 12)])), ((u2.1 5), .inl (cI, 10, .inl (u2.2 0))), ((u2.1 6), .inl (cI, 10, .inl (u2.2 1))), ((u2.1 7), .inl (cI, 10, .inl (u2.2 2))), ((u2.1 11), .inl (cI, 20, .inl (u2.2 3))), ((u2.1 12), .inl (cI, 20, .inl (fun _ => 0))), ((u2.1 2), .inr (7, [.int 0, .ref (u2.1 13)]))]) rfl (fun H locs hP hD hS => ?_)
  refine lv_aload_n hx hb dX8_init_25 rfl (lv_at hl 0 rfl) ?_
  refine r_new (ci := 2) (fs := [.int 0, .null, .null, .null, .null, .null, .null, .null, .null]) F hK hP hD hS hA rfl in_X2 tyX2 tyX2_ok k_310 k_131 k_96 (bw_dflt rfl) (Nat.le_of_ble_eq_true rfl) (Nat.le_of_ble_eq_true rfl) dX8_init_26 (w1 := fun q3 => [(b, .inr (8, [.int 0, .int 0, .ref q1, .null, .null, .null, .null, .null, .null, .null, .null, .null, .null, .null])), (q1, .inr (3, [.ref (u2.1 0), .int 0, .ref (u2.1 1), .ref (u2.1 2), .int 0, .int 0, .ref (u2.1 3), .ref (u2.1 4), .int 0, .int 24, .int 0, .int 0, .long 0, .int 0])), ((u2.1 0), .inl (cB, 900, .inl (fun _ => 0))), ((u2.1 1), .inr (2, [.int 0, .ref (u2.1 5), .ref (u2.1 6), .ref (u2.1 7), .ref (u2.1 8), .ref (u2.1 9), .ref (u2.1 10), .ref (u2.1 11), .ref (u2.1 12)])), ((u2.1 5), .inl (cI, 10, .inl (u2.2 0))), ((u2.1 6), .inl (cI, 10, .inl (u2.2 1))), ((u2.1 7), .inl (cI, 10, .inl (u2.2 2))), ((u2.1 11), .inl (cI, 20, .inl (u2.2 3))), ((u2.1 12), .inl (cI, 20, .inl (fun _ => 0))), ((u2.1 2), .inr (7, [.int 0, .ref (u2.1 13)])), (q3, .inr (2, [.int 0, .null, .null, .null, .null, .null, .null, .null, .null]))]) (fun _ => rfl) (fun q3 H hP hD hS => ?_)
  refine lv_dup hx hb dX8_init_29 rfl ?_
  refine r_callIv (As := []) (rest := [.ref q3, .ref b]) (wr := [(b, .inr (8, [.int 0, .int 0, .ref q1, .null, .null, .null, .null, .null, .null, .null, .null, .null, .null, .null])), (q1, .inr (3, [.ref (u2.1 0), .int 0, .ref (u2.1 1), .ref (u2.1 2), .int 0, .int 0, .ref (u2.1 3), .ref (u2.1 4), .int 0, .int 24, .int 0, .int 0, .long 0, .int 0])), ((u2.1 0), .inl (cB, 900, .inl (fun _ => 0))), ((u2.1 1), .inr (2, [.int 0, .ref (u2.1 5), .ref (u2.1 6), .ref (u2.1 7), .ref (u2.1 8), .ref (u2.1 9), .ref (u2.1 10), .ref (u2.1 11), .ref (u2.1 12)])), ((u2.1 5), .inl (cI, 10, .inl (u2.2 0))), ((u2.1 6), .inl (cI, 10, .inl (u2.2 1))), ((u2.1 7), .inl (cI, 10, .inl (u2.2 2))), ((u2.1 11), .inl (cI, 20, .inl (u2.2 3))), ((u2.1 12), .inl (cI, 20, .inl (fun _ => 0))), ((u2.1 2), .inr (7, [.int 0, .ref (u2.1 13)]))]) F hK hP hD hS hA hO hE (c_X2_init hO q3) k_311 ki_X2_init rfl 0 rfl (by decide +kernel) ⟨Nat.le_of_ble_eq_true rfl, Nat.le_of_ble_eq_true rfl⟩ [10] [0, 1, 2, 3, 4, 5, 6, 7, 8, 9] rfl rfl (by decide) (by decide) (by decide) hl.1 rfl (Nat.le_of_ble_eq_true rfl) dX8_init_30 ⟨Nat.le_of_ble_eq_true rfl, Nat.le_of_ble_eq_true rfl⟩ (w1 := fun u4 => [(b, .inr (8, [.int 0, .int 0, .ref q1, .null, .null, .null, .null, .null, .null, .null, .null, .null, .null, .null])), (q1, .inr (3, [.ref (u2.1 0), .int 0, .ref (u2.1 1), .ref (u2.1 2), .int 0, .int 0, .ref (u2.1 3), .ref (u2.1 4), .int 0, .int 24, .int 0, .int 0, .long 0, .int 0])), ((u2.1 0), .inl (cB, 900, .inl (fun _ => 0))), ((u2.1 1), .inr (2, [.int 0, .ref (u2.1 5), .ref (u2.1 6), .ref (u2.1 7), .ref (u2.1 8), .ref (u2.1 9), .ref (u2.1 10), .ref (u2.1 11), .ref (u2.1 12)])), ((u2.1 5), .inl (cI, 10, .inl (u2.2 0))), ((u2.1 6), .inl (cI, 10, .inl (u2.2 1))), ((u2.1 7), .inl (cI, 10, .inl (u2.2 2))), ((u2.1 11), .inl (cI, 20, .inl (u2.2 3))), ((u2.1 12), .inl (cI, 20, .inl (fun _ => 0))), ((u2.1 2), .inr (7, [.int 0, .ref (u2.1 13)])), (q3, .inr (2, [.int 0, .ref (u4.1 0), .ref (u4.1 1), .ref (u4.1 2), .ref (u4.1 3), .ref (u4.1 4), .ref (u4.1 5), .ref (u4.1 6), .ref (u4.1 7)])), ((u4.1 0), .inl (cI, 10, .inl (u4.2 0))), ((u4.1 1), .inl (cI, 10, .inl (u4.2 1))), ((u4.1 2), .inl (cI, 10, .inl (u4.2 2))), ((u4.1 6), .inl (cI, 20, .inl (u4.2 3))), ((u4.1 7), .inl (cI, 20, .inl (fun _ => 0)))]) (fun _ => rfl) (fun  u4 H locs hp hP hD hS => ?_)
  refine r_putF F hK hP hD hS 0 3 rfl rfl in_X8 tyX8 tyX8_ok nmX8 (by decide) k_498 rfl hin rfl rfl rfl (Nat.le_of_ble_eq_true rfl) dX8_init_33 (w1 := [(b, .inr (8, [.int 0, .int 0, .ref q1, .ref q3, .null, .null, .null, .null, .null, .null, .null, .null, .null, .null])), (q1, .inr (3, [.ref (u2.1 0), .int 0, .ref (u2.1 1), .ref (u2.1 2), .int 0, .int 0, .ref (u2.1 3), .ref (u2.1 4), .int 0, .int 24, .int 0, .int 0, .long 0, .int 0])), ((u2.1 0), .inl (cB, 900, .inl (fun _ => 0))), ((u2.1 1), .inr (2, [.int 0, .ref (u2.1 5), .ref (u2.1 6), .ref (u2.1 7), .ref (u2.1 8), .ref (u2.1 9), .ref (u2.1 10), .ref (u2.1 11), .ref (u2.1 12)])), ((u2.1 5), .inl (cI, 10, .inl (u2.2 0))), ((u2.1 6), .inl (cI, 10, .inl (u2.2 1))), ((u2.1 7), .inl (cI, 10, .inl (u2.2 2))), ((u2.1 11), .inl (cI, 20, .inl (u2.2 3))), ((u2.1 12), .inl (cI, 20, .inl (fun _ => 0))), ((u2.1 2), .inr (7, [.int 0, .ref (u2.1 13)])), (q3, .inr (2, [.int 0, .ref (u4.1 0), .ref (u4.1 1), .ref (u4.1 2), .ref (u4.1 3), .ref (u4.1 4), .ref (u4.1 5), .ref (u4.1 6), .ref (u4.1 7)])), ((u4.1 0), .inl (cI, 10, .inl (u4.2 0))), ((u4.1 1), .inl (cI, 10, .inl (u4.2 1))), ((u4.1 2), .inl (cI, 10, .inl (u4.2 2))), ((u4.1 6), .inl (cI, 20, .inl (u4.2 3))), ((u4.1 7), .inl (cI, 20, .inl (fun _ => 0)))]) rfl (fun H locs hP hD hS => ?_)
  have hP := bw_subP (isC := [0, 1, 2, 3, 4, 5, 6, 7, 8, 9]) (wc := [(b, .inr (8, [.int 0, .int 0, .ref q1, .ref q3, .null, .null, .null, .null, .null, .null, .null, .null, .null, .null])), (q1, .inr (3, [.ref (u2.1 0), .int 0, .ref (u2.1 1), .ref (u2.1 2), .int 0, .int 0, .ref (u2.1 3), .ref (u2.1 4), .int 0, .int 24, .int 0, .int 0, .long 0, .int 0])), ((u2.1 0), .inl (cB, 900, .inl (fun _ => 0))), ((u2.1 1), .inr (2, [.int 0, .ref (u2.1 5), .ref (u2.1 6), .ref (u2.1 7), .ref (u2.1 8), .ref (u2.1 9), .ref (u2.1 10), .ref (u2.1 11), .ref (u2.1 12)])), ((u2.1 5), .inl (cI, 10, .inl (u2.2 0))), ((u2.1 6), .inl (cI, 10, .inl (u2.2 1))), ((u2.1 7), .inl (cI, 10, .inl (u2.2 2))), ((u2.1 11), .inl (cI, 20, .inl (u2.2 3))), ((u2.1 12), .inl (cI, 20, .inl (fun _ => 0))), ((u2.1 2), .inr (7, [.int 0, .ref (u2.1 13)]))]) hP rfl
  have hD := hD.sub (ws' := [(b, .inr (8, [.int 0, .int 0, .ref q1, .ref q3, .null, .null, .null, .null, .null, .null, .null, .null, .null, .null])), (q1, .inr (3, [.ref (u2.1 0), .int 0, .ref (u2.1 1), .ref (u2.1 2), .int 0, .int 0, .ref (u2.1 3), .ref (u2.1 4), .int 0, .int 24, .int 0, .int 0, .long 0, .int 0])), ((u2.1 0), .inl (cB, 900, .inl (fun _ => 0))), ((u2.1 1), .inr (2, [.int 0, .ref (u2.1 5), .ref (u2.1 6), .ref (u2.1 7), .ref (u2.1 8), .ref (u2.1 9), .ref (u2.1 10), .ref (u2.1 11), .ref (u2.1 12)])), ((u2.1 5), .inl (cI, 10, .inl (u2.2 0))), ((u2.1 6), .inl (cI, 10, .inl (u2.2 1))), ((u2.1 7), .inl (cI, 10, .inl (u2.2 2))), ((u2.1 11), .inl (cI, 20, .inl (u2.2 3))), ((u2.1 12), .inl (cI, 20, .inl (fun _ => 0))), ((u2.1 2), .inr (7, [.int 0, .ref (u2.1 13)]))]) [0, 1, 2, 3, 4, 5, 6, 7, 8, 9] (by decide) rfl
  refine lv_aload_n hx hb dX8_init_36 rfl (lv_at hl 0 rfl) ?_
  refine r_new (ci := 2) (fs := [.int 0, .null, .null, .null, .null, .null, .null, .null, .null]) F hK hP hD hS hA rfl in_X2 tyX2 tyX2_ok k_310 k_131 k_96 (bw_dflt rfl) (Nat.le_of_ble_eq_true rfl) (Nat.le_of_ble_eq_true rfl) dX8_init_37 (w1 := fun q5 => [(b, .inr (8, [.int 0, .int 0, .ref q1, .ref q3, .null, .null, .null, .null, .null, .null, .null, .null, .null, .null])), (q1, .inr (3, [.ref (u2.1 0), .int 0, .ref (u2.1 1), .ref (u2.1 2), .int 0, .int 0, .ref (u2.1 3), .ref (u2.1 4), .int 0, .int 24, .int 0, .int 0, .long 0, .int 0])), ((u2.1 0), .inl (cB, 900, .inl (fun _ => 0))), ((u2.1 1), .inr (2, [.int 0, .ref (u2.1 5), .ref (u2.1 6), .ref (u2.1 7), .ref (u2.1 8), .ref (u2.1 9), .ref (u2.1 10), .ref (u2.1 11), .ref (u2.1 12)])), ((u2.1 5), .inl (cI, 10, .inl (u2.2 0))), ((u2.1 6), .inl (cI, 10, .inl (u2.2 1))), ((u2.1 7), .inl (cI, 10, .inl (u2.2 2))), ((u2.1 11), .inl (cI, 20, .inl (u2.2 3))), ((u2.1 12), .inl (cI, 20, .inl (fun _ => 0))), ((u2.1 2), .inr (7, [.int 0, .ref (u2.1 13)])), (q5, .inr (2, [.int 0, .null, .null, .null, .null, .null, .null, .null, .null]))]) (fun _ => rfl) (fun q5 H hP hD hS => ?_)
  refine lv_dup hx hb dX8_init_40 rfl ?_
  refine r_callIv (As := []) (rest := [.ref q5, .ref b]) (wr := [(b, .inr (8, [.int 0, .int 0, .ref q1, .ref q3, .null, .null, .null, .null, .null, .null, .null, .null, .null, .null])), (q1, .inr (3, [.ref (u2.1 0), .int 0, .ref (u2.1 1), .ref (u2.1 2), .int 0, .int 0, .ref (u2.1 3), .ref (u2.1 4), .int 0, .int 24, .int 0, .int 0, .long 0, .int 0])), ((u2.1 0), .inl (cB, 900, .inl (fun _ => 0))), ((u2.1 1), .inr (2, [.int 0, .ref (u2.1 5), .ref (u2.1 6), .ref (u2.1 7), .ref (u2.1 8), .ref (u2.1 9), .ref (u2.1 10), .ref (u2.1 11), .ref (u2.1 12)])), ((u2.1 5), .inl (cI, 10, .inl (u2.2 0))), ((u2.1 6), .inl (cI, 10, .inl (u2.2 1))), ((u2.1 7), .inl (cI, 10, .inl (u2.2 2))), ((u2.1 11), .inl (cI, 20, .inl (u2.2 3))), ((u2.1 12), .inl (cI, 20, .inl (fun _ => 0))), ((u2.1 2), .inr (7, [.int 0, .ref (u2.1 13)]))]) F hK hP hD hS hA hO hE (c_X2_init hO q5) k_311 ki_X2_init rfl 0 rfl (by decide +kernel) ⟨Nat.le_of_ble_eq_true rfl, Nat.le_of_ble_eq_true rfl⟩ [10] [0, 1, 2, 3, 4, 5, 6, 7, 8, 9] rfl rfl (by decide) (by decide) (by decide) hl.1 rfl (Nat.le_of_ble_eq_true rfl) dX8_init_41 ⟨Nat.le_of_ble_eq_true rfl, Nat.le_of_ble_eq_true rfl⟩ (w1 := fun u6 => [(b, .inr (8, [.int 0, .int 0, .ref q1, .ref q3, .null, .null, .null, .null, .null, .null, .null, .null, .null, .null])), (q1, .inr (3, [.ref (u2.1 0), .int 0, .ref (u2.1 1), .ref (u2.1 2), .int 0, .int 0, .ref (u2.1 3), .ref (u2.1 4), .int 0, .int 24, .int 0, .int 0, .long 0, .int 0])), ((u2.1 0), .inl (cB, 900, .inl (fun _ => 0))), ((u2.1 1), .inr (2, [.int 0, .ref (u2.1 5), .ref (u2.1 6), .ref (u2.1 7), .ref (u2.1 8), .ref (u2.1 9), .ref (u2.1 10), .ref (u2.1 11), .ref (u2.1 12)])), ((u2.1 5), .inl (cI, 10, .inl (u2.2 0))), ((u2.1 6), .inl (cI, 10, .inl (u2.2 1))), ((u2.1 7), .inl (cI, 10, .inl (u2.2 2))), ((u2.1 11), .inl (cI, 20, .inl (u2.2 3))), ((u2.1 12), .inl (cI, 20, .inl (fun _ => 0))), ((u2.1 2), .inr (7, [.int 0, .ref (u2.1 13)])), (q5, .inr (2, [.int 0, .ref (u6.1 0), .ref (u6.1 1), .ref (u6.1 2), .ref (u6.1 3), .ref (u6.1 4), .ref (u6.1 5), .ref (u6.1 6), .ref (u6.1 7)])), ((u6.1 0), .inl (cI, 10, .inl (u6.2 0))), ((u6.1 1), .inl (cI, 10, .inl (u6.2 1))), ((u6.1 2), .inl (cI, 10, .inl (u6.2 2))), ((u6.1 6), .inl (cI, 20, .inl (u6.2 3))), ((u6.1 7), .inl (cI, 20, .inl (fun _ => 0)))]) (fun _ => rfl) (fun  u6 H locs hp hP hD hS => ?_)
  refine r_putF F hK hP hD hS 0 4 rfl rfl in_X8 tyX8 tyX8_ok nmX8 (by decide) k_499 rfl hin rfl rfl rfl (Nat.le_of_ble_eq_true rfl) dX8_init_44 (w1 := [(b, .inr (8, [.int 0, .int 0, .ref q1, .ref q3, .ref q5, .null, .null, .null, .null, .null, .null, .null, .null, .null])), (q1, .inr (3, [.ref (u2.1 0), .int 0, .ref (u2.1 1), .ref (u2.1 2), .int 0, .int 0, .ref (u2.1 3), .ref (u2.1 4), .int 0, .int 24, .int 0, .int 0, .long 0, .int 0])), ((u2.1 0), .inl (cB, 900, .inl (fun _ => 0))), ((u2.1 1), .inr (2, [.int 0, .ref (u2.1 5), .ref (u2.1 6), .ref (u2.1 7), .ref (u2.1 8), .ref (u2.1 9), .ref (u2.1 10), .ref (u2.1 11), .ref (u2.1 12)])), ((u2.1 5), .inl (cI, 10, .inl (u2.2 0))), ((u2.1 6), .inl (cI, 10, .inl (u2.2 1))), ((u2.1 7), .inl (cI, 10, .inl (u2.2 2))), ((u2.1 11), .inl (cI, 20, .inl (u2.2 3))), ((u2.1 12), .inl (cI, 20, .inl (fun _ => 0))), ((u2.1 2), .inr (7, [.int 0, .ref (u2.1 13)])), (q5, .inr (2, [.int 0, .ref (u6.1 0), .ref (u6.1 1), .ref (u6.1 2), .ref (u6.1 3), .ref (u6.1 4), .ref (u6.1 5), .ref (u6.1 6), .ref (u6.1 7)])), ((u6.1 0), .inl (cI, 10, .inl (u6.2 0))), ((u6.1 1), .inl (cI, 10, .inl (u6.2 1))), ((u6.1 2), .inl (cI, 10, .inl (u6.2 2))), ((u6.1 6), .inl (cI, 20, .inl (u6.2 3))), ((u6.1 7), .inl (cI, 20, .inl (fun _ => 0)))]) rfl (fun H locs hP hD hS => ?_)
  have hP := bw_subP (isC := [0, 1, 2, 3, 4, 5, 6, 7, 8, 9, 10, 15]) (wc := [(b, .inr (8, [.int 0, .int 0, .ref q1, .ref q3, .ref q5, .null, .null, .null, .null, .null, .null, .null, .null, .null])), (q1, .inr (3, [.ref (u2.1 0), .int 0, .ref (u2.1 1), .ref (u2.1 2), .int 0, .int 0, .ref (u2.1 3), .ref (u2.1 4), .int 0, .int 24, .int 0, .int 0, .long 0, .int 0])), ((u2.1 0), .inl (cB, 900, .inl (fun _ => 0))), ((u2.1 1), .inr (2, [.int 0, .ref (u2.1 5), .ref (u2.1 6), .ref (u2.1 7), .ref (u2.1 8), .ref (u2.1 9), .ref (u2.1 10), .ref (u2.1 11), .ref (u2.1 12)])), ((u2.1 5), .inl (cI, 10, .inl (u2.2 0))), ((u2.1 6), .inl (cI, 10, .inl (u2.2 1))), ((u2.1 7), .inl (cI, 10, .inl (u2.2 2))), ((u2.1 11), .inl (cI, 20, .inl (u2.2 3))), ((u2.1 12), .inl (cI, 20, .inl (fun _ => 0))), ((u2.1 2), .inr (7, [.int 0, .ref (u2.1 13)])), (q5, .inr (2, [.int 0, .ref (u6.1 0), .ref (u6.1 1), .ref (u6.1 2), .ref (u6.1 3), .ref (u6.1 4), .ref (u6.1 5), .ref (u6.1 6), .ref (u6.1 7)])), ((u6.1 7), .inl (cI, 20, .inl (fun _ => 0)))]) hP rfl
  have hD := hD.sub (ws' := [(b, .inr (8, [.int 0, .int 0, .ref q1, .ref q3, .ref q5, .null, .null, .null, .null, .null, .null, .null, .null, .null])), (q1, .inr (3, [.ref (u2.1 0), .int 0, .ref (u2.1 1), .ref (u2.1 2), .int 0, .int 0, .ref (u2.1 3), .ref (u2.1 4), .int 0, .int 24, .int 0, .int 0, .long 0, .int 0])), ((u2.1 0), .inl (cB, 900, .inl (fun _ => 0))), ((u2.1 1), .inr (2, [.int 0, .ref (u2.1 5), .ref (u2.1 6), .ref (u2.1 7), .ref (u2.1 8), .ref (u2.1 9), .ref (u2.1 10), .ref (u2.1 11), .ref (u2.1 12)])), ((u2.1 5), .inl (cI, 10, .inl (u2.2 0))), ((u2.1 6), .inl (cI, 10, .inl (u2.2 1))), ((u2.1 7), .inl (cI, 10, .inl (u2.2 2))), ((u2.1 11), .inl (cI, 20, .inl (u2.2 3))), ((u2.1 12), .inl (cI, 20, .inl (fun _ => 0))), ((u2.1 2), .inr (7, [.int 0, .ref (u2.1 13)])), (q5, .inr (2, [.int 0, .ref (u6.1 0), .ref (u6.1 1), .ref (u6.1 2), .ref (u6.1 3), .ref (u6.1 4), .ref (u6.1 5), .ref (u6.1 6), .ref (u6.1 7)])), ((u6.1 7), .inl (cI, 20, .inl (fun _ => 0)))]) [0, 1, 2, 3, 4, 5, 6, 7, 8, 9, 10, 15] (by decide) rfl
  refine lv_aload_n hx hb dX8_init_47 rfl (lv_at hl 0 rfl) ?_
  refine r_new (ci := 2) (fs := [.int 0, .null, .null, .null, .null, .null, .null, .null, .null]) F hK hP hD hS hA rfl in_X2 tyX2 tyX2_ok k_310 k_131 k_96 (bw_dflt rfl) (Nat.le_of_ble_eq_true rfl) (Nat.le_of_ble_eq_true rfl) dX8_init_48 (w1 := fun q7 => [(b, .inr (8, [.int 0, .int 0, .ref q1, .ref q3, .ref q5, .null, .null, .null, .null, .null, .null, .null, .null, .null])), (q1, .inr (3, [.ref (u2.1 0), .int 0, .ref (u2.1 1), .ref (u2.1 2), .int 0, .int 0, .ref (u2.1 3), .ref (u2.1 4), .int 0, .int 24, .int 0, .int 0, .long 0, .int 0])), ((u2.1 0), .inl (cB, 900, .inl (fun _ => 0))), ((u2.1 1), .inr (2, [.int 0, .ref (u2.1 5), .ref (u2.1 6), .ref (u2.1 7), .ref (u2.1 8), .ref (u2.1 9), .ref (u2.1 10), .ref (u2.1 11), .ref (u2.1 12)])), ((u2.1 5), .inl (cI, 10, .inl (u2.2 0))), ((u2.1 6), .inl (cI, 10, .inl (u2.2 1))), ((u2.1 7), .inl (cI, 10, .inl (u2.2 2))), ((u2.1 11), .inl (cI, 20, .inl (u2.2 3))), ((u2.1 12), .inl (cI, 20, .inl (fun _ => 0))), ((u2.1 2), .inr (7, [.int 0, .ref (u2.1 13)])), (q5, .inr (2, [.int 0, .ref (u6.1 0), .ref (u6.1 1), .ref (u6.1 2), .ref (u6.1 3), .ref (u6.1 4), .ref (u6.1 5), .ref (u6.1 6), .ref (u6.1 7)])), ((u6.1 7), .inl (cI, 20, .inl (fun _ => 0))), (q7, .inr (2, [.int 0, .null, .null, .null, .null, .null, .null, .null, .null]))]) (fun _ => rfl) (fun q7 H hP hD hS => ?_)
  refine lv_dup hx hb dX8_init_51 rfl ?_
  refine r_callIv (As := []) (rest := [.ref q7, .ref b]) (wr := [(b, .inr (8, [.int 0, .int 0, .ref q1, .ref q3, .ref q5, .null, .null, .null, .null, .null, .null, .null, .null, .null])), (q1, .inr (3, [.ref (u2.1 0), .int 0, .ref (u2.1 1), .ref (u2.1 2), .int 0, .int 0, .ref (u2.1 3), .ref (u2.1 4), .int 0, .int 24, .int 0, .int 0, .long 0, .int 0])), ((u2.1 0), .inl (cB, 900, .inl (fun _ => 0))), ((u2.1 1), .inr (2, [.int 0, .ref (u2.1 5), .ref (u2.1 6), .ref (u2.1 7), .ref (u2.1 8), .ref (u2.1 9), .ref (u2.1 10), .ref (u2.1 11), .ref (u2.1 12)])), ((u2.1 5), .inl (cI, 10, .inl (u2.2 0))), ((u2.1 6), .inl (cI, 10, .inl (u2.2 1))), ((u2.1 7), .inl (cI, 10, .inl (u2.2 2))), ((u2.1 11), .inl (cI, 20, .inl (u2.2 3))), ((u2.1 12), .inl (cI, 20, .inl (fun _ => 0))), ((u2.1 2), .inr (7, [.int 0, .ref (u2.1 13)])), (q5, .inr (2, [.int 0, .ref (u6.1 0), .ref (u6.1 1), .ref (u6.1 2), .ref (u6.1 3), .ref (u6.1 4), .ref (u6.1 5), .ref (u6.1 6), .ref (u6.1 7)])), ((u6.1 7), .inl (cI, 20, .inl (fun _ => 0)))]) F hK hP hD hS hA hO hE (c_X2_init hO q7) k_311 ki_X2_init rfl 0 rfl (by decide +kernel) ⟨Nat.le_of_ble_eq_true rfl, Nat.le_of_ble_eq_true rfl⟩ [12] [0, 1, 2, 3, 4, 5, 6, 7, 8, 9, 10, 11] rfl rfl (by decide) (by decide) (by decide) hl.1 rfl (Nat.le_of_ble_eq_true rfl) dX8_init_52 ⟨Nat.le_of_ble_eq_true rfl, Nat.le_of_ble_eq_true rfl⟩ (w1 := fun u8 => [(b, .inr (8, [.int 0, .int 0, .ref q1, .ref q3, .ref q5, .null, .null, .null, .null, .null, .null, .null, .null, .null])), (q1, .inr (3, [.ref (u2.1 0), .int 0, .ref (u2.1 1), .ref (u2.1 2), .int 0, .int 0, .ref (u2.1 3), .ref (u2.1 4), .int 0, .int 24, .int 0, .int 0, .long 0, .int 0])), ((u2.1 0), .inl (cB, 900, .inl (fun _ => 0))), ((u2.1 1), .inr (2, [.int 0, .ref (u2.1 5), .ref (u2.1 6), .ref (u2.1 7), .ref (u2.1 8), .ref (u2.1 9), .ref (u2.1 10), .ref (u2.1 11), .ref (u2.1 12)])), ((u2.1 5), .inl (cI, 10, .inl (u2.2 0))), ((u2.1 6), .inl (cI, 10, .inl (u2.2 1))), ((u2.1 7), .inl (cI, 10, .inl (u2.2 2))), ((u2.1 11), .inl (cI, 20, .inl (u2.2 3))), ((u2.1 12), .inl (cI, 20, .inl (fun _ => 0))), ((u2.1 2), .inr (7, [.int 0, .ref (u2.1 13)])), (q5, .inr (2, [.int 0, .ref (u6.1 0), .ref (u6.1 1), .ref (u6.1 2), .ref (u6.1 3), .ref (u6.1 4), .ref (u6.1 5), .ref (u6.1 6), .ref (u6.1 7)])), ((u6.1 7), .inl (cI, 20, .inl (fun _ => 0))), (q7, .inr (2, [.int 0, .ref (u8.1 0), .ref (u8.1 1), .ref (u8.1 2), .ref (u8.1 3), .ref (u8.1 4), .ref (u8.1 5), .ref (u8.1 6), .ref (u8.1 7)])), ((u8.1 0), .inl (cI, 10, .inl (u8.2 0))), ((u8.1 1), .inl (cI, 10, .inl (u8.2 1))), ((u8.1 2), .inl (cI, 10, .inl (u8.2 2))), ((u8.1 6), .inl (cI, 20, .inl (u8.2 3))), ((u8.1 7), .inl (cI, 20, .inl (fun _ => 0)))]) (fun _ => rfl) (fun  u8 H locs hp hP hD hS => ?_)
  refine r_putF F hK hP hD hS 0 5 rfl rfl in_X8 tyX8 tyX8_ok nmX8 (by decide) k_500 rfl hin rfl rfl rfl (Nat.le_of_ble_eq_true rfl) dX8_init_55 (w1 := [(b, .inr (8, [.int 0, .int 0, .ref q1, .ref q3, .ref q5, .ref q7, .null, .null, .null, .null, .null, .null, .null, .null])), (q1, .inr (3, [.ref (u2.1 0), .int 0, .ref (u2.1 1), .ref (u2.1 2), .int 0, .int 0, .ref (u2.1 3), .ref (u2.1 4), .int 0, .int 24, .int 0, .int 0, .long 0, .int 0])), ((u2.1 0), .inl (cB, 900, .inl (fun _ => 0))), ((u2.1 1), .inr (2, [.int 0, .ref (u2.1 5), .ref (u2.1 6), .ref (u2.1 7), .ref (u2.1 8), .ref (u2.1 9), .ref (u2.1 10), .ref (u2.1 11), .ref (u2.1 12)])), ((u2.1 5), .inl (cI, 10, .inl (u2.2 0))), ((u2.1 6), .inl (cI, 10, .inl (u2.2 1))), ((u2.1 7), .inl (cI, 10, .inl (u2.2 2))), ((u2.1 11), .inl (cI, 20, .inl (u2.2 3))), ((u2.1 12), .inl (cI, 20, .inl (fun _ => 0))), ((u2.1 2), .inr (7, [.int 0, .ref (u2.1 13)])), (q5, .inr (2, [.int 0, .ref (u6.1 0), .ref (u6.1 1), .ref (u6.1 2), .ref (u6.1 3), .ref (u6.1 4), .ref (u6.1 5), .ref (u6.1 6), .ref (u6.1 7)])), ((u6.1 7), .inl (cI, 20, .inl (fun _ => 0))), (q7, .inr (2, [.int 0, .ref (u8.1 0), .ref (u8.1 1), .ref (u8.1 2), .ref (u8.1 3), .ref (u8.1 4), .ref (u8.1 5), .ref (u8.1 6), .ref (u8.1 7)])), ((u8.1 0), .inl (cI, 10, .inl (u8.2 0))), ((u8.1 1), .inl (cI, 10, .inl (u8.2 1))), ((u8.1 2), .inl (cI, 10, .inl (u8.2 2))), ((u8.1 6), .inl (cI, 20, .inl (u8.2 3))), ((u8.1 7), .inl (cI, 20, .inl (fun _ => 0)))]) rfl (fun H locs hP hD hS => ?_)
  have hP := bw_subP (isC := [0, 1, 2, 3, 4, 5, 6, 7, 8, 9, 10, 11]) (wc := [(b, .inr (8, [.int 0, .int 0, .ref q1, .ref q3, .ref q5, .ref q7, .null, .null, .null, .null, .null, .null, .null, .null])), (q1, .inr (3, [.ref (u2.1 0), .int 0, .ref (u2.1 1), .ref (u2.1 2), .int 0, .int 0, .ref (u2.1 3), .ref (u2.1 4), .int 0, .int 24, .int 0, .int 0, .long 0, .int 0])), ((u2.1 0), .inl (cB, 900, .inl (fun _ => 0))), ((u2.1 1), .inr (2, [.int 0, .ref (u2.1 5), .ref (u2.1 6), .ref (u2.1 7), .ref (u2.1 8), .ref (u2.1 9), .ref (u2.1 10), .ref (u2.1 11), .ref (u2.1 12)])), ((u2.1 5), .inl (cI, 10, .inl (u2.2 0))), ((u2.1 6), .inl (cI, 10, .inl (u2.2 1))), ((u2.1 7), .inl (cI, 10, .inl (u2.2 2))), ((u2.1 11), .inl (cI, 20, .inl (u2.2 3))), ((u2.1 12), .inl (cI, 20, .inl (fun _ => 0))), ((u2.1 2), .inr (7, [.int 0, .ref (u2.1 13)])), (q5, .inr (2, [.int 0, .ref (u6.1 0), .ref (u6.1 1), .ref (u6.1 2), .ref (u6.1 3), .ref (u6.1 4), .ref (u6.1 5), .ref (u6.1 6), .ref (u6.1 7)])), ((u6.1 7), .inl (cI, 20, .inl (fun _ => 0)))]) hP rfl
  have hD := hD.sub (ws' := [(b, .inr (8, [.int 0, .int 0, .ref q1, .ref q3, .ref q5, .ref q7, .null, .null, .null, .null, .null, .null, .null, .null])), (q1, .inr (3, [.ref (u2.1 0), .int 0, .ref (u2.1 1), .ref (u2.1 2), .int 0, .int 0, .ref (u2.1 3), .ref (u2.1 4), .int 0, .int 24, .int 0, .int 0, .long 0, .int 0])), ((u2.1 0), .inl (cB, 900, .inl (fun _ => 0))), ((u2.1 1), .inr (2, [.int 0, .ref (u2.1 5), .ref (u2.1 6), .ref (u2.1 7), .ref (u2.1 8), .ref (u2.1 9), .ref (u2.1 10), .ref (u2.1 11), .ref (u2.1 12)])), ((u2.1 5), .inl (cI, 10, .inl (u2.2 0))), ((u2.1 6), .inl (cI, 10, .inl (u2.2 1))), ((u2.1 7), .inl (cI, 10, .inl (u2.2 2))), ((u2.1 11), .inl (cI, 20, .inl (u2.2 3))), ((u2.1 12), .inl (cI, 20, .inl (fun _ => 0))), ((u2.1 2), .inr (7, [.int 0, .ref (u2.1 13)])), (q5, .inr (2, [.int 0, .ref (u6.1 0), .ref (u6.1 1), .ref (u6.1 2), .ref (u6.1 3), .ref (u6.1 4), .ref (u6.1 5), .ref (u6.1 6), .ref (u6.1 7)])), ((u6.1 7), .inl (cI, 20, .inl (fun _ => 0)))]) [0, 1, 2, 3, 4, 5, 6, 7, 8, 9, 10, 11] (by decide) rfl
  refine lv_aload_n hx hb dX8_init_58 rfl (lv_at hl 0 rfl) ?_
  refine r_new (ci := 7) (fs := [.int 0, .null]) F hK hP hD hS hA rfl in_X7 tyX7 tyX7_ok k_312 k_196 k_97 (bw_dflt rfl) (Nat.le_of_ble_eq_true rfl) (Nat.le_of_ble_eq_true rfl) dX8_init_59 (w1 := fun q9 => [(b, .inr (8, [.int 0, .int 0, .ref q1, .ref q3, .ref q5, .ref q7, .null, .null, .null, .null, .null, .null, .null, .null])), (q1, .inr (3, [.ref (u2.1 0), .int 0, .ref (u2.1 1), .ref (u2.1 2), .int 0, .int 0, .ref (u2.1 3), .ref (u2.1 4), .int 0, .int 24, .int 0, .int 0, .long 0, .int 0])), ((u2.1 0), .inl (cB, 900, .inl (fun _ => 0))), ((u2.1 1), .inr (2, [.int 0, .ref (u2.1 5), .ref (u2.1 6), .ref (u2.1 7), .ref (u2.1 8), .ref (u2.1 9), .ref (u2.1 10), .ref (u2.1 11), .ref (u2.1 12)])), ((u2.1 5), .inl (cI, 10, .inl (u2.2 0))), ((u2.1 6), .inl (cI, 10, .inl (u2.2 1))), ((u2.1 7), .inl (cI, 10, .inl (u2.2 2))), ((u2.1 11), .inl (cI, 20, .inl (u2.2 3))), ((u2.1 12), .inl (cI, 20, .inl (fun _ => 0))), ((u2.1 2), .inr (7, [.int 0, .ref (u2.1 13)])), (q5, .inr (2, [.int 0, .ref (u6.1 0), .ref (u6.1 1), .ref (u6.1 2), .ref (u6.1 3), .ref (u6.1 4), .ref (u6.1 5), .ref (u6.1 6), .ref (u6.1 7)])), ((u6.1 7), .inl (cI, 20, .inl (fun _ => 0))), (q9, .inr (7, [.int 0, .null]))]) (fun _ => rfl) (fun q9 H hP hD hS => ?_)
  refine lv_dup hx hb dX8_init_62 rfl ?_
  refine r_callNv (As := []) (rest := [.ref q9, .ref b]) (wr := [(b, .inr (8, [.int 0, .int 0, .ref q1, .ref q3, .ref q5, .ref q7, .null, .null, .null, .null, .null, .null, .null, .null])), (q1, .inr (3, [.ref (u2.1 0), .int 0, .ref (u2.1 1), .ref (u2.1 2), .int 0, .int 0, .ref (u2.1 3), .ref (u2.1 4), .int 0, .int 24, .int 0, .int 0, .long 0, .int 0])), ((u2.1 0), .inl (cB, 900, .inl (fun _ => 0))), ((u2.1 1), .inr (2, [.int 0, .ref (u2.1 5), .ref (u2.1 6), .ref (u2.1 7), .ref (u2.1 8), .ref (u2.1 9), .ref (u2.1 10), .ref (u2.1 11), .ref (u2.1 12)])), ((u2.1 5), .inl (cI, 10, .inl (u2.2 0))), ((u2.1 6), .inl (cI, 10, .inl (u2.2 1))), ((u2.1 7), .inl (cI, 10, .inl (u2.2 2))), ((u2.1 11), .inl (cI, 20, .inl (u2.2 3))), ((u2.1 12), .inl (cI, 20, .inl (fun _ => 0))), ((u2.1 2), .inr (7, [.int 0, .ref (u2.1 13)])), (q5, .inr (2, [.int 0, .ref (u6.1 0), .ref (u6.1 1), .ref (u6.1 2), .ref (u6.1 3), .ref (u6.1 4), .ref (u6.1 5), .ref (u6.1 6), .ref (u6.1 7)])), ((u6.1 7), .inl (cI, 20, .inl (fun _ => 0)))]) F hK hP hD hS hA hO hE (c_X7_init hO q9) (hN _ _ hE).2.1 ki_X7_init rfl 0 rfl (by decide +kernel) ⟨Nat.le_of_ble_eq_true rfl, Nat.le_of_ble_eq_true rfl⟩ [12] [0, 1, 2, 3, 4, 5, 6, 7, 8, 9, 10, 11] rfl rfl (by decide) (by decide) (by decide) hl.1 rfl (Nat.le_of_ble_eq_true rfl) dX8_init_63 ⟨Nat.le_of_ble_eq_true rfl, Nat.le_of_ble_eq_true rfl⟩ (w1 := fun u10 => [(b, .inr (8, [.int 0, .int 0, .ref q1, .ref q3, .ref q5, .ref q7, .null, .null, .null, .null, .null, .null, .null, .null])), (q1, .inr (3, [.ref (u2.1 0), .int 0, .ref (u2.1 1), .ref (u2.1 2), .int 0, .int 0, .ref (u2.1 3), .ref (u2.1 4), .int 0, .int 24, .int 0, .int 0, .long 0, .int 0])), ((u2.1 0), .inl (cB, 900, .inl (fun _ => 0))), ((u2.1 1), .inr (2, [.int 0, .ref (u2.1 5), .ref (u2.1 6), .ref (u2.1 7), .ref (u2.1 8), .ref (u2.1 9), .ref (u2.1 10), .ref (u2.1 11), .ref (u2.1 12)])), ((u2.1 5), .inl (cI, 10, .inl (u2.2 0))), ((u2.1 6), .inl (cI, 10, .inl (u2.2 1))), ((u2.1 7), .inl (cI, 10, .inl (u2.2 2))), ((u2.1 11), .inl (cI, 20, .inl (u2.2 3))), ((u2.1 12), .inl (cI, 20, .inl (fun _ => 0))), ((u2.1 2), .inr (7, [.int 0, .ref (u2.1 13)])), (q5, .inr (2, [.int 0, .ref (u6.1 0), .ref (u6.1 1), .ref (u6.1 2), .ref (u6.1 3), .ref (u6.1 4), .ref (u6.1 5), .ref (u6.1 6), .ref (u6.1 7)])), ((u6.1 7), .inl (cI, 20, .inl (fun _ => 0))), (q9, .inr (7, [.int 0, .ref (u10.1 0)]))]) (fun _ => rfl) (fun  u10 H locs hp hP hD hS => ?_)
  refine r_putF F hK hP hD hS 0 6 rfl rfl in_X8 tyX8 tyX8_ok nmX8 (by decide) k_501 rfl hin rfl rfl rfl (Nat.le_of_ble_eq_true rfl) dX8_init_66 (w1 := [(b, .inr (8, [.int 0, .int 0, .ref q1, .ref q3, .ref q5, .ref q7, .ref q9, .null, .null, .null, .null, .null, .null, .null])), (q1, .inr (3, [.ref (u2.1 0), .int 0, .ref (u2.1 1), .ref (u2.1 2), .int 0, .int 0, .ref (u2.1 3), .ref (u2.1 4), .int 0, .int 24, .int 0, .int 0, .long 0, .int 0])), ((u2.1 0), .inl (cB, 900, .inl (fun _ => 0))), ((u2.1 1), .inr (2, [.int 0, .ref (u2.1 5), .ref (u2.1 6), .ref (u2.1 7), .ref (u2.1 8), .ref (u2.1 9), .ref (u2.1 10), .ref (u2.1 11), .ref (u2.1 12)])), ((u2.1 5), .inl (cI, 10, .inl (u2.2 0))), ((u2.1 6), .inl (cI, 10, .inl (u2.2 1))), ((u2.1 7), .inl (cI, 10, .inl (u2.2 2))), ((u2.1 11), .inl (cI, 20, .inl (u2.2 3))), ((u2.1 12), .inl (cI, 20, .inl (fun _ => 0))), ((u2.1 2), .inr (7, [.int 0, .ref (u2.1 13)])), (q5, .inr (2, [.int 0, .ref (u6.1 0), .ref (u6.1 1), .ref (u6.1 2), .ref (u6.1 3), .ref (u6.1 4), .ref (u6.1 5), .ref (u6.1 6), .ref (u6.1 7)])), ((u6.1 7), .inl (cI, 20, .inl (fun _ => 0))), (q9, .inr (7, [.int 0, .ref (u10.1 0)]))]) rfl (fun H locs hP hD hS => ?_)
  refine lv_aload_n hx hb dX8_init_69 rfl (lv_at hl 0 rfl) ?_
  refine r_new (ci := 6) (fs := [.int 0, .int 0, .int 0, .int 0, .int 0, .null, .null, .null, .long 0, .null]) F hK hP hD hS hA rfl in_X6 tyX6 tyX6_ok k_314 k_315 k_102 (bw_dflt rfl) (Nat.le_of_ble_eq_true rfl) (Nat.le_of_ble_eq_true rfl) dX8_init_70 (w1 := fun q11 => [(b, .inr (8, [.int 0, .int 0, .ref q1, .ref q3, .ref q5, .ref q7, .ref q9, .null, .null, .null, .null, .null, .null, .null])), (q1, .inr (3, [.ref (u2.1 0), .int 0, .ref (u2.1 1), .ref (u2.1 2), .int 0, .int 0, .ref (u2.1 3), .ref (u2.1 4), .int 0, .int 24, .int 0, .int 0, .long 0, .int 0])), ((u2.1 0), .inl (cB, 900, .inl (fun _ => 0))), ((u2.1 1), .inr (2, [.int 0, .ref (u2.1 5), .ref (u2.1 6), .ref (u2.1 7), .ref (u2.1 8), .ref (u2.1 9), .ref (u2.1 10), .ref (u2.1 11), .ref (u2.1 12)])), ((u2.1 5), .inl (cI, 10, .inl (u2.2 0))), ((u2.1 6), .inl (cI, 10, .inl (u2.2 1))), ((u2.1 7), .inl (cI, 10, .inl (u2.2 2))), ((u2.1 11), .inl (cI, 20, .inl (u2.2 3))), ((u2.1 12), .inl (cI, 20, .inl (fun _ => 0))), ((u2.1 2), .inr (7, [.int 0, .ref (u2.1 13)])), (q5, .inr (2, [.int 0, .ref (u6.1 0), .ref (u6.1 1), .ref (u6.1 2), .ref (u6.1 3), .ref (u6.1 4), .ref (u6.1 5), .ref (u6.1 6), .ref (u6.1 7)])), ((u6.1 7), .inl (cI, 20, .inl (fun _ => 0))), (q9, .inr (7, [.int 0, .ref (u10.1 0)])), (q11, .inr (6, [.int 0, .int 0, .int 0, .int 0, .int 0, .null, .null, .null, .long 0, .null]))]) (fun _ => rfl) (fun q11 H hP hD hS => ?_)
  refine lv_dup hx hb dX8_init_73 rfl ?_
  refine r_callNv (As := []) (rest := [.ref q11, .ref b]) (wr := [(b, .inr (8, [.int 0, .int 0, .ref q1, .ref q3, .ref q5, .ref q7, .ref q9, .null, .null, .null, .null, .null, .null, .null])), (q1, .inr (3, [.ref (u2.1 0), .int 0, .ref (u2.1 1), .ref (u2.1 2), .int 0, .int 0, .ref (u2.1 3), .ref (u2.1 4), .int 0, .int 24, .int 0, .int 0, .long 0, .int 0])), ((u2.1 0), .inl (cB, 900, .inl (fun _ => 0))), ((u2.1 1), .inr (2, [.int 0, .ref (u2.1 5), .ref (u2.1 6), .ref (u2.1 7), .ref (u2.1 8), .ref (u2.1 9), .ref (u2.1 10), .ref (u2.1 11), .ref (u2.1 12)])), ((u2.1 5), .inl (cI, 10, .inl (u2.2 0))), ((u2.1 6), .inl (cI, 10, .inl (u2.2 1))), ((u2.1 7), .inl (cI, 10, .inl (u2.2 2))), ((u2.1 11), .inl (cI, 20, .inl (u2.2 3))), ((u2.1 12), .inl (cI, 20, .inl (fun _ => 0))), ((u2.1 2), .inr (7, [.int 0, .ref (u2.1 13)])), (q5, .inr (2, [.int 0, .ref (u6.1 0), .ref (u6.1 1), .ref (u6.1 2), .ref (u6.1 3), .ref (u6.1 4), .ref (u6.1 5), .ref (u6.1 6), .ref (u6.1 7)])), ((u6.1 7), .inl (cI, 20, .inl (fun _ => 0))), (q9, .inr (7, [.int 0, .ref (u10.1 0)]))]) F hK hP hD hS hA hO hE (c_X6_init hO q11) (hN _ _ hE).2.2.1 ki_X6_init rfl 0 rfl (by decide +kernel) ⟨Nat.le_of_ble_eq_true rfl, Nat.le_of_ble_eq_true rfl⟩ [13] [0, 1, 2, 3, 4, 5, 6, 7, 8, 9, 10, 11, 12] rfl rfl (by decide) (by decide) (by decide) hl.1 rfl (Nat.le_of_ble_eq_true rfl) dX8_init_74 ⟨Nat.le_of_ble_eq_true rfl, Nat.le_of_ble_eq_true rfl⟩ (w1 := fun u12 => [(b, .inr (8, [.int 0, .int 0, .ref q1, .ref q3, .ref q5, .ref q7, .ref q9, .null, .null, .null, .null, .null, .null, .null])), (q1, .inr (3, [.ref (u2.1 0), .int 0, .ref (u2.1 1), .ref (u2.1 2), .int 0, .int 0, .ref (u2.1 3), .ref (u2.1 4), .int 0, .int 24, .int 0, .int 0, .long 0, .int 0])), ((u2.1 0), .inl (cB, 900, .inl (fun _ => 0))), ((u2.1 1), .inr (2, [.int 0, .ref (u2.1 5), .ref (u2.1 6), .ref (u2.1 7), .ref (u2.1 8), .ref (u2.1 9), .ref (u2.1 10), .ref (u2.1 11), .ref (u2.1 12)])), ((u2.1 5), .inl (cI, 10, .inl (u2.2 0))), ((u2.1 6), .inl (cI, 10, .inl (u2.2 1))), ((u2.1 7), .inl (cI, 10, .inl (u2.2 2))), ((u2.1 11), .inl (cI, 20, .inl (u2.2 3))), ((u2.1 12), .inl (cI, 20, .inl (fun _ => 0))), ((u2.1 2), .inr (7, [.int 0, .ref (u2.1 13)])), (q5, .inr (2, [.int 0, .ref (u6.1 0), .ref (u6.1 1), .ref (u6.1 2), .ref (u6.1 3), .ref (u6.1 4), .ref (u6.1 5), .ref (u6.1 6), .ref (u6.1 7)])), ((u6.1 7), .inl (cI, 20, .inl (fun _ => 0))), (q9, .inr (7, [.int 0, .ref (u10.1 0)])), (q11, .inr (6, [.int 0, .int 0, .int 0, .int 0, .int 0, .ref (u12.1 0), .ref (u12.1 1), .ref (u12.1 2), .long 0, .ref (u12.1 3)]))]) (fun _ => rfl) (fun  u12 H locs hp hP hD hS => ?_)
  refine r_putF F hK hP hD hS 0 7 rfl rfl in_X8 tyX8 tyX8_ok nmX8 (by decide) k_502 rfl hin rfl rfl rfl (Nat.le_of_ble_eq_true rfl) dX8_init_77 (w1 := [(b, .inr (8, [.int 0, .int 0, .ref q1, .ref q3, .ref q5, .ref q7, .ref q9, .ref q11, .null, .null, .null, .null, .null, .null])), (q1, .inr (3, [.ref (u2.1 0), .int 0, .ref (u2.1 1), .ref (u2.1 2), .int 0, .int 0, .ref (u2.1 3), .ref (u2.1 4), .int 0, .int 24, .int 0, .int 0, .long 0, .int 0])), ((u2.1 0), .inl (cB, 900, .inl (fun _ => 0))), ((u2.1 1), .inr (2, [.int 0, .ref (u2.1 5), .ref (u2.1 6), .ref (u2.1 7), .ref (u2.1 8), .ref (u2.1 9), .ref (u2.1 10), .ref (u2.1 11), .ref (u2.1 12)])), ((u2.1 5), .inl (cI, 10, .inl (u2.2 0))), ((u2.1 6), .inl (cI, 10, .inl (u2.2 1))), ((u2.1 7), .inl (cI, 10, .inl (u2.2 2))), ((u2.1 11), .inl (cI, 20, .inl (u2.2 3))), ((u2.1 12), .inl (cI, 20, .inl (fun _ => 0))), ((u2.1 2), .inr (7, [.int 0, .ref (u2.1 13)])), (q5, .inr (2, [.int 0, .ref (u6.1 0), .ref (u6.1 1), .ref (u6.1 2), .ref (u6.1 3), .ref (u6.1 4), .ref (u6.1 5), .ref (u6.1 6), .ref (u6.1 7)])), ((u6.1 7), .inl (cI, 20, .inl (fun _ => 0))), (q9, .inr (7, [.int 0, .ref (u10.1 0)])), (q11, .inr (6, [.int 0, .int 0, .int 0, .int 0, .int 0, .ref (u12.1 0), .ref (u12.1 1), .ref (u12.1 2), .long 0, .ref (u12.1 3)]))]) rfl (fun H locs hP hD hS => ?_)
  have hP := bw_subP (isC := [0, 1, 2, 3, 4, 5, 6, 7, 8, 9, 10, 11, 12]) (wc := [(b, .inr (8, [.int 0, .int 0, .ref q1, .ref q3, .ref q5, .ref q7, .ref q9, .ref q11, .null, .null, .null, .null, .null, .null])), (q1, .inr (3, [.ref (u2.1 0), .int 0, .ref (u2.1 1), .ref (u2.1 2), .int 0, .int 0, .ref (u2.1 3), .ref (u2.1 4), .int 0, .int 24, .int 0, .int 0, .long 0, .int 0])), ((u2.1 0), .inl (cB, 900, .inl (fun _ => 0))), ((u2.1 1), .inr (2, [.int 0, .ref (u2.1 5), .ref (u2.1 6), .ref (u2.1 7), .ref (u2.1 8), .ref (u2.1 9), .ref (u2.1 10), .ref (u2.1 11), .ref (u2.1 12)])), ((u2.1 5), .inl (cI, 10, .inl (u2.2 0))), ((u2.1 6), .inl (cI, 10, .inl (u2.2 1))), ((u2.1 7), .inl (cI, 10, .inl (u2.2 2))), ((u2.1 11), .inl (cI, 20, .inl (u2.2 3))), ((u2.1 12), .inl (cI, 20, .inl (fun _ => 0))), ((u2.1 2), .inr (7, [.int 0, .ref (u2.1 13)])), (q5, .inr (2, [.int 0, .ref (u6.1 0), .ref (u6.1 1), .ref (u6.1 2), .ref (u6.1 3), .ref (u6.1 4), .ref (u6.1 5), .ref (u6.1 6), .ref (u6.1 7)])), ((u6.1 7), .inl (cI, 20, .inl (fun _ => 0))), (q9, .inr (7, [.int 0, .ref (u10.1 0)]))]) hP rfl
  have hD := hD.sub (ws' := [(b, .inr (8, [.int 0, .int 0, .ref q1, .ref q3, .ref q5, .ref q7, .ref q9, .ref q11, .null, .null, .null, .null, .null, .null])), (q1, .inr (3, [.ref (u2.1 0), .int 0, .ref (u2.1 1), .ref (u2.1 2), .int 0, .int 0, .ref (u2.1 3), .ref (u2.1 4), .int 0, .int 24, .int 0, .int 0, .long 0, .int 0])), ((u2.1 0), .inl (cB, 900, .inl (fun _ => 0))), ((u2.1 1), .inr (2, [.int 0, .ref (u2.1 5), .ref (u2.1 6), .ref (u2.1 7), .ref (u2.1 8), .ref (u2.1 9), .ref (u2.1 10), .ref (u2.1 11), .ref (u2.1 12)])), ((u2.1 5), .inl (cI, 10, .inl (u2.2 0))), ((u2.1 6), .inl (cI, 10, .inl (u2.2 1))), ((u2.1 7), .inl (cI, 10, .inl (u2.2 2))), ((u2.1 11), .inl (cI, 20, .inl (u2.2 3))), ((u2.1 12), .inl (cI, 20, .inl (fun _ => 0))), ((u2.1 2), .inr (7, [.int 0, .ref (u2.1 13)])), (q5, .inr (2, [.int 0, .ref (u6.1 0), .ref (u6.1 1), .ref (u6.1 2), .ref (u6.1 3), .ref (u6.1 4), .ref (u6.1 5), .ref (u6.1 6), .ref (u6.1 7)])), ((u6.1 7), .inl (cI, 20, .inl (fun _ => 0))), (q9, .inr (7, [.int 0, .ref (u10.1 0)]))]) [0, 1, 2, 3, 4, 5, 6, 7, 8, 9, 10, 11, 12] (by decide) rfl
  refine lv_aload_n hx hb dX8_init_80 rfl (lv_at hl 0 rfl) ?_
  refine r_new (ci := 6) (fs := [.int 0, .int 0, .int 0, .int 0, .int 0, .null, .null, .null, .long 0, .null]) F hK hP hD hS hA rfl in_X6 tyX6 tyX6_ok k_314 k_315 k_102 (bw_dflt rfl) (Nat.le_of_ble_eq_true rfl) (Nat.le_of_ble_eq_true rfl) dX8_init_81 (w1 := fun q13 => [(b, .inr (8, [.int 0, .int 0, .ref q1, .ref q3, .ref q5, .ref q7, .ref q9, .ref q11, .null, .null, .null, .null, .null, .null])), (q1, .inr (3, [.ref (u2.1 0), .int 0, .ref (u2.1 1), .ref (u2.1 2), .int 0, .int 0, .ref (u2.1 3), .ref (u2.1 4), .int 0, .int 24, .int 0, .int 0, .long 0, .int 0])), ((u2.1 0), .inl (cB, 900, .inl (fun _ => 0))), ((u2.1 1), .inr (2, [.int 0, .ref (u2.1 5), .ref (u2.1 6), .ref (u2.1 7), .ref (u2.1 8), .ref (u2.1 9), .ref (u2.1 10), .ref (u2.1 11), .ref (u2.1 12)])), ((u2.1 5), .inl (cI, 10, .inl (u2.2 0))), ((u2.1 6), .inl (cI, 10, .inl (u2.2 1))), ((u2.1 7), .inl (cI, 10, .inl (u2.2 2))), ((u2.1 11), .inl (cI, 20, .inl (u2.2 3))), ((u2.1 12), .inl (cI, 20, .inl (fun _ => 0))), ((u2.1 2), .inr (7, [.int 0, .ref (u2.1 13)])), (q5, .inr (2, [.int 0, .ref (u6.1 0), .ref (u6.1 1), .ref (u6.1 2), .ref (u6.1 3), .ref (u6.1 4), .ref (u6.1 5), .ref (u6.1 6), .ref (u6.1 7)])), ((u6.1 7), .inl (cI, 20, .inl (fun _ => 0))), (q9, .inr (7, [.int 0, .ref (u10.1 0)])), (q13, .inr (6, [.int 0, .int 0, .int 0, .int 0, .int 0, .null, .null, .null, .long 0, .null]))]) (fun _ => rfl) (fun q13 H hP hD hS => ?_)
  refine lv_dup hx hb dX8_init_84 rfl ?_
  refine r_callNv (As := []) (rest := [.ref q13, .ref b]) (wr := [(b, .inr (8, [.int 0, .int 0, .ref q1, .ref q3, .ref q5, .ref q7, .ref q9, .ref q11, .null, .null, .null, .null, .null, .null])), (q1, .inr (3, [.ref (u2.1 0), .int 0, .ref (u2.1 1), .ref (u2.1 2), .int 0, .int 0, .ref (u2.1 3), .ref (u2.1 4), .int 0, .int 24, .int 0, .int 0, .long 0, .int 0])), ((u2.1 0), .inl (cB, 900, .inl (fun _ => 0))), ((u2.1 1), .inr (2, [.int 0, .ref (u2.1 5), .ref (u2.1 6), .ref (u2.1 7), .ref (u2.1 8), .ref (u2.1 9), .ref (u2.1 10), .ref (u2.1 11), .ref (u2.1 12)])), ((u2.1 5), .inl (cI, 10, .inl (u2.2 0))), ((u2.1 6), .inl (cI, 10, .inl (u2.2 1))), ((u2.1 7), .inl (cI, 10, .inl (u2.2 2))), ((u2.1 11), .inl (cI, 20, .inl (u2.2 3))), ((u2.1 12), .inl (cI, 20, .inl (fun _ => 0))), ((u2.1 2), .inr (7, [.int 0, .ref (u2.1 13)])), (q5, .inr (2, [.int 0, .ref (u6.1 0), .ref (u6.1 1), .ref (u6.1 2), .ref (u6.1 3), .ref (u6.1 4), .ref (u6.1 5), .ref (u6.1 6), .ref (u6.1 7)])), ((u6.1 7), .inl (cI, 20, .inl (fun _ => 0))), (q9, .inr (7, [.int 0, .ref (u10.1 0)]))]) F hK hP hD hS hA hO hE (c_X6_init hO q13) (hN _ _ hE).2.2.1 ki_X6_init rfl 0 rfl (by decide +kernel) ⟨Nat.le_of_ble_eq_true rfl, Nat.le_of_ble_eq_true rfl⟩ [13] [0, 1, 2, 3, 4, 5, 6, 7, 8, 9, 10, 11, 12] rfl rfl (by decide) (by decide) (by decide) hl.1 rfl (Nat.le_of_ble_eq_true rfl) dX8_init_85 ⟨Nat.le_of_ble_eq_true rfl, Nat.le_of_ble_eq_true rfl⟩ (w1 := fun u14 => [(b, .inr (8, [.int 0, .int 0, .ref q1, .ref q3, .ref q5, .ref q7, .ref q9, .ref q11, .null, .null, .null, .null, .null, .null])), (q1, .inr (3, [.ref (u2.1 0), .int 0, .ref (u2.1 1), .ref (u2.1 2), .int 0, .int 0, .ref (u2.1 3), .ref (u2.1 4), .int 0, .int 24, .int 0, .int 0, .long 0, .int 0])), ((u2.1 0), .inl (cB, 900, .inl (fun _ => 0))), ((u2.1 1), .inr (2, [.int 0, .ref (u2.1 5), .ref (u2.1 6), .ref (u2.1 7), .ref (u2.1 8), .ref (u2.1 9), .ref (u2.1 10), .ref (u2.1 11), .ref (u2.1 12)])), ((u2.1 5), .inl (cI, 10, .inl (u2.2 0))), ((u2.1 6), .inl (cI, 10, .inl (u2.2 1))), ((u2.1 7), .inl (cI, 10, .inl (u2.2 2))), ((u2.1 11), .inl (cI, 20, .inl (u2.2 3))), ((u2.1 12), .inl (cI, 20, .inl (fun _ => 0))), ((u2.1 2), .inr (7, [.int 0, .ref (u2.1 13)])), (q5, .inr (2, [.int 0, .ref (u6.1 0), .ref (u6.1 1), .ref (u6.1 2), .ref (u6.1 3), .ref (u6.1 4), .ref (u6.1 5), .ref (u6.1 6), .ref (u6.1 7)])), ((u6.1 7), .inl (cI, 20, .inl (fun _ => 0))), (q9, .inr (7, [.int 0, .ref (u10.1 0)])), (q13, .inr (6, [.int 0, .int 0, .int 0, .int 0, .int 0, .ref (u14.1 0), .ref (u14.1 1), .ref (u14.1 2), .long 0, .ref (u14.1 3)]))]) (fun _ => rfl) (fun  u14 H locs hp hP hD hS => ?_)
  refine r_putF F hK hP hD hS 0 8 rfl rfl in_X8 tyX8 tyX8_ok nmX8 (by decide) k_503 rfl hin rfl rfl rfl (Nat.le_of_ble_eq_true rfl) dX8_init_88 (w1 := [(b, .inr (8, [.int 0, .int 0, .ref q1, .ref q3, .ref q5, .ref q7, .ref q9, .ref q11, .ref q13, .null, .null, .null, .null, .null])), (q1, .inr (3, [.ref (u2.1 0), .int 0, .ref (u2.1 1), .ref (u2.1 2), .int 0, .int 0, .ref (u2.1 3), .ref (u2.1 4), .int 0, .int 24, .int 0, .int 0, .long 0, .int 0])), ((u2.1 0), .inl (cB, 900, .inl (fun _ => 0))), ((u2.1 1), .inr (2, [.int 0, .ref (u2.1 5), .ref (u2.1 6), .ref (u2.1 7), .ref (u2.1 8), .ref (u2.1 9), .ref (u2.1 10), .ref (u2.1 11), .ref (u2.1 12)])), ((u2.1 5), .inl (cI, 10, .inl (u2.2 0))), ((u2.1 6), .inl (cI, 10, .inl (u2.2 1))), ((u2.1 7), .inl (cI, 10, .inl (u2.2 2))), ((u2.1 11), .inl (cI, 20, .inl (u2.2 3))), ((u2.1 12), .inl (cI, 20, .inl (fun _ => 0))), ((u2.1 2), .inr (7, [.int 0, .ref (u2.1 13)])), (q5, .inr (2, [.int 0, .ref (u6.1 0), .ref (u6.1 1), .ref (u6.1 2), .ref (u6.1 3), .ref (u6.1 4), .ref (u6.1 5), .ref (u6.1 6), .ref (u6.1 7)])), ((u6.1 7), .inl (cI, 20, .inl (fun _ => 0))), (q9, .inr (7, [.int 0, .ref (u10.1 0)])), (q13, .inr (6, [.int 0, .int 0, .int 0, .int 0, .int 0, .ref (u14.1 0), .ref (u14.1 1), .ref (u14.1 2), .long 0, .ref (u14.1 3)]))]) rfl (fun H locs hP hD hS => ?_)
  have hP := bw_subP (isC := [0, 1, 2, 3, 4, 5, 6, 7, 8, 9, 10, 11, 12]) (wc := [(b, .inr (8, [.int 0, .int 0, .ref q1, .ref q3, .ref q5, .ref q7, .ref q9, .ref q11, .ref q13, .null, .null, .null, .null, .null])), (q1, .inr (3, [.ref (u2.1 0), .int 0, .ref (u2.1 1), .ref (u2.1 2), .int 0, .int 0, .ref (u2.1 3), .ref (u2.1 4), .int 0, .int 24, .int 0, .int 0, .long 0, .int 0])), ((u2.1 0), .inl (cB, 900, .inl (fun _ => 0))), ((u2.1 1), .inr (2, [.int 0, .ref (u2.1 5), .ref (u2.1 6), .ref (u2.1 7), .ref (u2.1 8), .ref (u2.1 9), .ref (u2.1 10), .ref (u2.1 11), .ref (u2.1 12)])), ((u2.1 5), .inl (cI, 10, .inl (u2.2 0))), ((u2.1 6), .inl (cI, 10, .inl (u2.2 1))), ((u2.1 7), .inl (cI, 10, .inl (u2.2 2))), ((u2.1 11), .inl (cI, 20, .inl (u2.2 3))), ((u2.1 12), .inl (cI, 20, .inl (fun _ => 0))), ((u2.1 2), .inr (7, [.int 0, .ref (u2.1 13)])), (q5, .inr (2, [.int 0, .ref (u6.1 0), .ref (u6.1 1), .ref (u6.1 2), .ref (u6.1 3), .ref (u6.1 4), .ref (u6.1 5), .ref (u6.1 6), .ref (u6.1 7)])), ((u6.1 7), .inl (cI, 20, .inl (fun _ => 0))), (q9, .inr (7, [.int 0, .ref (u10.1 0)]))]) hP rfl
  have hD := hD.sub (ws' := [(b, .inr (8, [.int 0, .int 0, .ref q1, .ref q3, .ref q5, .ref q7, .ref q9, .ref q11, .ref q13, .null, .null, .null, .null, .null])), (q1, .inr (3, [.ref (u2.1 0), .int 0, .ref (u2.1 1), .ref (u2.1 2), .int 0, .int 0, .ref (u2.1 3), .ref (u2.1 4), .int 0, .int 24, .int 0, .int 0, .long 0, .int 0])), ((u2.1 0), .inl (cB, 900, .inl (fun _ => 0))), ((u2.1 1), .inr (2, [.int 0, .ref (u2.1 5), .ref (u2.1 6), .ref (u2.1 7), .ref (u2.1 8), .ref (u2.1 9), .ref (u2.1 10), .ref (u2.1 11), .ref (u2.1 12)])), ((u2.1 5), .inl (cI, 10, .inl (u2.2 0))), ((u2.1 6), .inl (cI, 10, .inl (u2.2 1))), ((u2.1 7), .inl (cI, 10, .inl (u2.2 2))), ((u2.1 11), .inl (cI, 20, .inl (u2.2 3))), ((u2.1 12), .inl (cI, 20, .inl (fun _ => 0))), ((u2.1 2), .inr (7, [.int 0, .ref (u2.1 13)])), (q5, .inr (2, [.int 0, .ref (u6.1 0), .ref (u6.1 1), .ref (u6.1 2), .ref (u6.1 3), .ref (u6.1 4), .ref (u6.1 5), .ref (u6.1 6), .ref (u6.1 7)])), ((u6.1 7), .inl (cI, 20, .inl (fun _ => 0))), (q9, .inr (7, [.int 0, .ref (u10.1 0)]))]) [0, 1, 2, 3, 4, 5, 6, 7, 8, 9, 10, 11, 12] (by decide) rfl
  refine lv_aload_n hx hb dX8_init_91 rfl (lv_at hl 0 rfl) ?_
  refine r_new (ci := 6) (fs := [.int 0, .int 0, .int 0, .int 0, .int 0, .null, .null, .null, .long 0, .null]) F hK hP hD hS hA rfl in_X6 tyX6 tyX6_ok k_314 k_315 k_102 (bw_dflt rfl) (Nat.le_of_ble_eq_true rfl) (Nat.le_of_ble_eq_true rfl) dX8_init_92 (w1 := fun q15 => [(b, .inr (8, [.int 0, .int 0, .ref q1, .ref q3, .ref q5, .ref q7, .ref q9, .ref q11, .ref q13, .null, .null, .null, .null, .null])), (q1, .inr (3, [.ref (u2.1 0), .int 0, .ref (u2.1 1), .ref (u2.1 2), .int 0, .int 0, .ref (u2.1 3), .ref (u2.1 4), .int 0, .int 24, .int 0, .int 0, .long 0, .int 0])), ((u2.1 0), .inl (cB, 900, .inl (fun _ => 0))), ((u2.1 1), .inr (2, [.int 0, .ref (u2.1 5), .ref (u2.1 6), .ref (u2.1 7), .ref (u2.1 8), .ref (u2.1 9), .ref (u2.1 10), .ref (u2.1 11), .ref (u2.1 12)])), ((u2.1 5), .inl (cI, 10, .inl (u2.2 0))), ((u2.1 6), .inl (cI, 10, .inl (u2.2 1))), ((u2.1 7), .inl (cI, 10, .inl (u2.2 2))), ((u2.1 11), .inl (cI, 20, .inl (u2.2 3))), ((u2.1 12), .inl (cI, 20, .inl (fun _ => 0))), ((u2.1 2), .inr (7, [.int 0, .ref (u2.1 13)])), (q5, .inr (2, [.int 0, .ref (u6.1 0), .ref (u6.1 1), .ref (u6.1 2), .ref (u6.1 3), .ref (u6.1 4), .ref (u6.1 5), .ref (u6.1 6), .ref (u6.1 7)])), ((u6.1 7), .inl (cI, 20, .inl (fun _ => 0))), (q9, .inr (7, [.int 0, .ref (u10.1 0)])), (q15, .inr (6, [.int 0, .int 0, .int 0, .int 0, .int 0, .null, .null, .null, .long 0, .null]))]) (fun _ => rfl) (fun q15 H hP hD hS => ?_)
  refine lv_dup hx hb dX8_init_95 rfl ?_
  refine r_callNv (As := []) (rest := [.ref q15, .ref b]) (wr := [(b, .inr (8, [.int 0, .int 0, .ref q1, .ref q3, .ref q5, .ref q7, .ref q9, .ref q11, .ref q13, .null, .null, .null, .null, .null])), (q1, .inr (3, [.ref (u2.1 0), .int 0, .ref (u2.1 1), .ref (u2.1 2), .int 0, .int 0, .ref (u2.1 3), .ref (u2.1 4), .int 0, .int 24, .int 0, .int 0, .long 0, .int 0])), ((u2.1 0), .inl (cB, 900, .inl (fun _ => 0))), ((u2.1 1), .inr (2, [.int 0, .ref (u2.1 5), .ref (u2.1 6), .ref (u2.1 7), .ref (u2.1 8), .ref (u2.1 9), .ref (u2.1 10), .ref (u2.1 11), .ref (u2.1 12)])), ((u2.1 5), .inl (cI, 10, .inl (u2.2 0))), ((u2.1 6), .inl (cI, 10, .inl (u2.2 1))), ((u2.1 7), .inl (cI, 10, .inl (u2.2 2))), ((u2.1 11), .inl (cI, 20, .inl (u2.2 3))), ((u2.1 12), .inl (cI, 20, .inl (fun _ => 0))), ((u2.1 2), .inr (7, [.int 0, .ref (u2.1 13)])), (q5, .inr (2, [.int 0, .ref (u6.1 0), .ref (u6.1 1), .ref (u6.1 2), .ref (u6.1 3), .ref (u6.1 4), .ref (u6.1 5), .ref (u6.1 6), .ref (u6.1 7)])), ((u6.1 7), .inl (cI, 20, .inl (fun _ => 0))), (q9, .inr (7, [.int 0, .ref (u10.1 0)]))]) F hK hP hD hS hA hO hE (c_X6_init hO q15) (hN _ _ hE).2.2.1 ki_X6_init rfl 0 rfl (by decide +kernel) ⟨Nat.le_of_ble_eq_true rfl, Nat.le_of_ble_eq_true rfl⟩ [13] [0, 1, 2, 3, 4, 5, 6, 7, 8, 9, 10, 11, 12] rfl rfl (by decide) (by decide) (by decide) hl.1 rfl (Nat.le_of_ble_eq_true rfl) dX8_init_96 ⟨Nat.le_of_ble_eq_true rfl, Nat.le_of_ble_eq_true rfl⟩ (w1 := fun u16 => [(b, .inr (8, [.int 0, .int 0, .ref q1, .ref q3, .ref q5, .ref q7, .ref q9, .ref q11, .ref q13, .null, .null, .null, .null, .null])), (q1, .inr (3, [.ref (u2.1 0), .int 0, .ref (u2.1 1), .ref (u2.1 2), .int 0, .int 0, .ref (u2.1 3), .ref (u2.1 4), .int 0, .int 24, .int 0, .int 0, .long 0, .int 0])), ((u2.1 0), .inl (cB, 900, .inl (fun _ => 0))), ((u2.1 1), .inr (2, [.int 0, .ref (u2.1 5), .ref (u2.1 6), .ref (u2.1 7), .ref (u2.1 8), .ref (u2.1 9), .ref (u2.1 10), .ref (u2.1 11), .ref (u2.1 12)])), ((u2.1 5), .inl (cI, 10, .inl (u2.2 0))), ((u2.1 6), .inl (cI, 10, .inl (u2.2 1))), ((u2.1 7), .inl (cI, 10, .inl (u2.2 2))), ((u2.1 11), .inl (cI, 20, .inl (u2.2 3))), ((u2.1 12), .inl (cI, 20, .inl (fun _ => 0))), ((u2.1 2), .inr (7, [.int 0, .ref (u2.1 13)])), (q5, .inr (2, [.int 0, .ref (u6.1 0), .ref (u6.1 1), .ref (u6.1 2), .ref (u6.1 3), .ref (u6.1 4), .ref (u6.1 5), .ref (u6.1 6), .ref (u6.1 7)])), ((u6.1 7), .inl (cI, 20, .inl (fun _ => 0))), (q9, .inr (7, [.int 0, .ref (u10.1 0)])), (q15, .inr (6, [.int 0, .int 0, .int 0, .int 0, .int 0, .ref (u16.1 0), .ref (u16.1 1), .ref (u16.1 2), .long 0, .ref (u16.1 3)]))]) (fun _ => rfl) (fun  u16 H locs hp hP hD hS => ?_)
  refine r_putF F hK hP hD hS 0 9 rfl rfl in_X8 tyX8 tyX8_ok nmX8 (by decide) k_504 rfl hin rfl rfl rfl (Nat.le_of_ble_eq_true rfl) dX8_init_99 (w1 := [(b, .inr (8, [.int 0, .int 0, .ref q1, .ref q3, .ref q5, .ref q7, .ref q9, .ref q11, .ref q13, .ref q15, .null, .null, .null, .null])), (q1, .inr (3, [.ref (u2.1 0), .int 0, .ref (u2.1 1), .ref (u2.1 2), .int 0, .int 0, .ref (u2.1 3), .ref (u2.1 4), .int 0, .int 24, .int 0, .int 0, .long 0, .int 0])), ((u2.1 0), .inl (cB, 900, .inl (fun _ => 0))), ((u2.1 1), .inr (2, [.int 0, .ref (u2.1 5), .ref (u2.1 6), .ref (u2.1 7), .ref (u2.1 8), .ref (u2.1 9), .ref (u2.1 10), .ref (u2.1 11), .ref (u2.1 12)])), ((u2.1 5), .inl (cI, 10, .inl (u2.2 0))), ((u2.1 6), .inl (cI, 10, .inl (u2.2 1))), ((u2.1 7), .inl (cI, 10, .inl (u2.2 2))), ((u2.1 11), .inl (cI, 20, .inl (u2.2 3))), ((u2.1 12), .inl (cI, 20, .inl (fun _ => 0))), ((u2.1 2), .inr (7, [.int 0, .ref (u2.1 13)])), (q5, .inr (2, [.int 0, .ref (u6.1 0), .ref (u6.1 1), .ref (u6.1 2), .ref (u6.1 3), .ref (u6.1 4), .ref (u6.1 5), .ref (u6.1 6), .ref (u6.1 7)])), ((u6.1 7), .inl (cI, 20, .inl (fun _ => 0))), (q9, .inr (7, [.int 0, .ref (u10.1 0)])), (q15, .inr (6, [.int 0, .int 0, .int 0, .int 0, .int 0, .ref (u16.1 0), .ref (u16.1 1), .ref (u16.1 2), .long 0, .ref (u16.1 3)]))]) rfl (fun H locs hP hD hS => ?_)
  have hP := bw_subP (isC := [0, 1, 2, 3, 4, 5, 6, 7, 8, 9, 10, 11, 12]) (wc := [(b, .inr (8, [.int 0, .int 0, .ref q1, .ref q3, .ref q5, .ref q7, .ref q9, .ref q11, .ref q13, .ref q15, .null, .null, .null, .null])), (q1, .inr (3, [.ref (u2.1 0), .int 0, .ref (u2.1 1), .ref (u2.1 2), .int 0, .int 0, .ref (u2.1 3), .ref (u2.1 4), .int 0, .int 24, .int 0, .int 0, .long 0, .int 0])), ((u2.1 0), .inl (cB, 900, .inl (fun _ => 0))), ((u2.1 1), .inr (2, [.int 0, .ref (u2.1 5), .ref (u2.1 6), .ref (u2.1 7), .ref (u2.1 8), .ref (u2.1 9), .ref (u2.1 10), .ref (u2.1 11), .ref (u2.1 12)])), ((u2.1 5), .inl (cI, 10, .inl (u2.2 0))), ((u2.1 6), .inl (cI, 10, .inl (u2.2 1))), ((u2.1 7), .inl (cI, 10, .inl (u2.2 2))), ((u2.1 11), .inl (cI, 20, .inl (u2.2 3))), ((u2.1 12), .inl (cI, 20, .inl (fun _ => 0))), ((u2.1 2), .inr (7, [.int 0, .ref (u2.1 13)])), (q5, .inr (2, [.int 0, .ref (u6.1 0), .ref (u6.1 1), .ref (u6.1 2), .ref (u6.1 3), .ref (u6.1 4), .ref (u6.1 5), .ref (u6.1 6), .ref (u6.1 7)])), ((u6.1 7), .inl (cI, 20, .inl (fun _ => 0))), (q9, .inr (7, [.int 0, .ref (u10.1 0)]))]) hP rfl
  have hD := hD.sub (ws' := [(b, .inr (8, [.int 0, .int 0, .ref q1, .ref q3, .ref q5, .ref q7, .ref q9, .ref q11, .ref q13, .ref q15, .null, .null, .null, .null])), (q1, .inr (3, [.ref (u2.1 0), .int 0, .ref (u2.1 1), .ref (u2.1 2), .int 0, .int 0, .ref (u2.1 3), .ref (u2.1 4), .int 0, .int 24, .int 0, .int 0, .long 0, .int 0])), ((u2.1 0), .inl (cB, 900, .inl (fun _ => 0))), ((u2.1 1), .inr (2, [.int 0, .ref (u2.1 5), .ref (u2.1 6), .ref (u2.1 7), .ref (u2.1 8), .ref (u2.1 9), .ref (u2.1 10), .ref (u2.1 11), .ref (u2.1 12)])), ((u2.1 5), .inl (cI, 10, .inl (u2.2 0))), ((u2.1 6), .inl (cI, 10, .inl (u2.2 1))), ((u2.1 7), .inl (cI, 10, .inl (u2.2 2))), ((u2.1 11), .inl (cI, 20, .inl (u2.2 3))), ((u2.1 12), .inl (cI, 20, .inl (fun _ => 0))), ((u2.1 2), .inr (7, [.int 0, .ref (u2.1 13)])), (q5, .inr (2, [.int 0, .ref (u6.1 0), .ref (u6.1 1), .ref (u6.1 2), .ref (u6.1 3), .ref (u6.1 4), .ref (u6.1 5), .ref (u6.1 6), .ref (u6.1 7)])), ((u6.1 7), .inl (cI, 20, .inl (fun _ => 0))), (q9, .inr (7, [.int 0, .ref (u10.1 0)]))]) [0, 1, 2, 3, 4, 5, 6, 7, 8, 9, 10, 11, 12] (by decide) rfl
  refine lv_aload_n hx hb dX8_init_102 rfl (lv_at hl 0 rfl) ?_
  refine r_new (ci := 4) (fs := [.int 0, .int 0, .int 0, .int 0, .int 0, .int 0, .int 0, .int 0, .null, .null, .null, .null, .null]) F hK hP hD hS hA rfl in_X4 tyX4 tyX4_ok k_362 k_363 k_103 (bw_dflt rfl) (Nat.le_of_ble_eq_true rfl) (Nat.le_of_ble_eq_true rfl) dX8_init_103 (w1 := fun q17 => [(b, .inr (8, [.int 0, .int 0, .ref q1, .ref q3, .ref q5, .ref q7, .ref q9, .ref q11, .ref q13, .ref q15, .null, .null, .null, .null])), (q1, .inr (3, [.ref (u2.1 0), .int 0, .ref (u2.1 1), .ref (u2.1 2), .int 0, .int 0, .ref (u2.1 3), .ref (u2.1 4), .int 0, .int 24, .int 0, .int 0, .long 0, .int 0])), ((u2.1 0), .inl (cB, 900, .inl (fun _ => 0))), ((u2.1 1), .inr (2, [.int 0, .ref (u2.1 5), .ref (u2.1 6), .ref (u2.1 7), .ref (u2.1 8), .ref (u2.1 9), .ref (u2.1 10), .ref (u2.1 11), .ref (u2.1 12)])), ((u2.1 5), .inl (cI, 10, .inl (u2.2 0))), ((u2.1 6), .inl (cI, 10, .inl (u2.2 1))), ((u2.1 7), .inl (cI, 10, .inl (u2.2 2))), ((u2.1 11), .inl (cI, 20, .inl (u2.2 3))), ((u2.1 12), .inl (cI, 20, .inl (fun _ => 0))), ((u2.1 2), .inr (7, [.int 0, .ref (u2.1 13)])), (q5, .inr (2, [.int 0, .ref (u6.1 0), .ref (u6.1 1), .ref (u6.1 2), .ref (u6.1 3), .ref (u6.1 4), .ref (u6.1 5), .ref (u6.1 6), .ref (u6.1 7)])), ((u6.1 7), .inl (cI, 20, .inl (fun _ => 0))), (q9, .inr (7, [.int 0, .ref (u10.1 0)])), (q17, .inr (4, [.int 0, .int 0, .int 0, .int 0, .int 0, .int 0, .int 0, .int 0, .null, .null, .null, .null, .null]))]) (fun _ => rfl) (fun q17 H hP hD hS => ?_)
  refine lv_dup hx hb dX8_init_106 rfl ?_
  refine r_callNv (As := []) (rest := [.ref q17, .ref b]) (wr := [(b, .inr (8, [.int 0, .int 0, .ref q1, .ref q3, .ref q5, .ref q7, .ref q9, .ref q11, .ref q13, .ref q15, .null, .null, .null, .null])), (q1, .inr (3, [.ref (u2.1 0), .int 0, .ref (u2.1 1), .ref (u2.1 2), .int 0, .int 0, .ref (u2.1 3), .ref (u2.1 4), .int 0, .int 24, .int 0, .int 0, .long 0, .int 0])), ((u2.1 0), .inl (cB, 900, .inl (fun _ => 0))), ((u2.1 1), .inr (2, [.int 0, .ref (u2.1 5), .ref (u2.1 6), .ref (u2.1 7), .ref (u2.1 8), .ref (u2.1 9), .ref (u2.1 10), .ref (u2.1 11), .ref (u2.1 12)])), ((u2.1 5), .inl (cI, 10, .inl (u2.2 0))), ((u2.1 6), .inl (cI, 10, .inl (u2.2 1))), ((u2.1 7), .inl (cI, 10, .inl (u2.2 2))), ((u2.1 11), .inl (cI, 20, .inl (u2.2 3))), ((u2.1 12), .inl (cI, 20, .inl (fun _ => 0))), ((u2.1 2), .inr (7, [.int 0, .ref (u2.1 13)])), (q5, .inr (2, [.int 0, .ref (u6.1 0), .ref (u6.1 1), .ref (u6.1 2), .ref (u6.1 3), .ref (u6.1 4), .ref (u6.1 5), .ref (u6.1 6), .ref (u6.1 7)])), ((u6.1 7), .inl (cI, 20, .inl (fun _ => 0))), (q9, .inr (7, [.int 0, .ref (u10.1 0)]))]) F hK hP hD hS hA hO hE (c_X4_init hO hN q17) (hN _ _ hE).2.2.2.1 ki_X4_init rfl 0 rfl (by decide +kernel) ⟨Nat.le_of_ble_eq_true rfl, Nat.le_of_ble_eq_true rfl⟩ [13] [0, 1, 2, 3, 4, 5, 6, 7, 8, 9, 10, 11, 12] rfl rfl (by decide) (by decide) (by decide) hl.1 rfl (Nat.le_of_ble_eq_true rfl) dX8_init_107 ⟨Nat.le_of_ble_eq_true rfl, Nat.le_of_ble_eq_true rfl⟩ (w1 := fun u18 => [(b, .inr (8, [.int 0, .int 0, .ref q1, .ref q3, .ref q5, .ref q7, .ref q9, .ref q11, .ref q13, .ref q15, .null, .null, .null, .null])), (q1, .inr (3, [.ref (u2.1 0), .int 0, .ref (u2.1 1), .ref (u2.1 2), .int 0, .int 0, .ref (u2.1 3), .ref (u2.1 4), .int 0, .int 24, .int 0, .int 0, .long 0, .int 0])), ((u2.1 0), .inl (cB, 900, .inl (fun _ => 0))), ((u2.1 1), .inr (2, [.int 0, .ref (u2.1 5), .ref (u2.1 6), .ref (u2.1 7), .ref (u2.1 8), .ref (u2.1 9), .ref (u2.1 10), .ref (u2.1 11), .ref (u2.1 12)])), ((u2.1 5), .inl (cI, 10, .inl (u2.2 0))), ((u2.1 6), .inl (cI, 10, .inl (u2.2 1))), ((u2.1 7), .inl (cI, 10, .inl (u2.2 2))), ((u2.1 11), .inl (cI, 20, .inl (u2.2 3))), ((u2.1 12), .inl (cI, 20, .inl (fun _ => 0))), ((u2.1 2), .inr (7, [.int 0, .ref (u2.1 13)])), (q5, .inr (2, [.int 0, .ref (u6.1 0), .ref (u6.1 1), .ref (u6.1 2), .ref (u6.1 3), .ref (u6.1 4), .ref (u6.1 5), .ref (u6.1 6), .ref (u6.1 7)])), ((u6.1 7), .inl (cI, 20, .inl (fun _ => 0))), (q9, .inr (7, [.int 0, .ref (u10.1 0)]))]) (fun _ => rfl) (fun  u18 H locs hp hP hD hS => ?_)
  refine r_putF F hK hP hD hS 0 10 rfl rfl in_X8 tyX8 tyX8_ok nmX8 (by decide) k_505 rfl hin rfl rfl rfl (Nat.le_of_ble_eq_true rfl) dX8_init_110 (w1 := [(b, .inr (8, [.int 0, .int 0, .ref q1, .ref q3, .ref q5, .ref q7, .ref q9, .ref q11, .ref q13, .ref q15, .ref q17, .null, .null, .null])), (q1, .inr (3, [.ref (u2.1 0), .int 0, .ref (u2.1 1), .ref (u2.1 2), .int 0, .int 0, .ref (u2.1 3), .ref (u2.1 4), .int 0, .int 24, .int 0, .int 0, .long 0, .int 0])), ((u2.1 0), .inl (cB, 900, .inl (fun _ => 0))), ((u2.1 1), .inr (2, [.int 0, .ref (u2.1 5), .ref (u2.1 6), .ref (u2.1 7), .ref (u2.1 8), .ref (u2.1 9), .ref (u2.1 10), .ref (u2.1 11), .ref (u2.1 12)])), ((u2.1 5), .inl (cI, 10, .inl (u2.2 0))), ((u2.1 6), .inl (cI, 10, .inl (u2.2 1))), ((u2.1 7), .inl (cI, 10, .inl (u2.2 2))), ((u2.1 11), .inl (cI, 20, .inl (u2.2 3))), ((u2.1 12), .inl (cI, 20, .inl (fun _ => 0))), ((u2.1 2), .inr (7, [.int 0, .ref (u2.1 13)])), (q5, .inr (2, [.int 0, .ref (u6.1 0), .ref (u6.1 1), .ref (u6.1 2), .ref (u6.1 3), .ref (u6.1 4), .ref (u6.1 5), .ref (u6.1 6), .ref (u6.1 7)])), ((u6.1 7), .inl (cI, 20, .inl (fun _ => 0))), (q9, .inr (7, [.int 0, .ref (u10.1 0)]))]) rfl (fun H locs hP hD hS => ?_)
  refine lv_aload_n hx hb dX8_init_113 rfl (lv_at hl 0 rfl) ?_
  refine r_new (ci := 5) (fs := [.int 0, .int 0, .null, .null]) F hK hP hD hS hA rfl in_X5 tyX5 tyX5_ok k_420 k_421 k_104 (bw_dflt rfl) (Nat.le_of_ble_eq_true rfl) (Nat.le_of_ble_eq_true rfl) dX8_init_114 (w1 := fun q19 => [(b, .inr (8, [.int 0, .int 0, .ref q1, .ref q3, .ref q5, .ref q7, .ref q9, .ref q11, .ref q13, .ref q15, .ref q17, .null, .null, .null])), (q1, .inr (3, [.ref (u2.1 0), .int 0, .ref (u2.1 1), .ref (u2.1 2), .int 0, .int 0, .ref (u2.1 3), .ref (u2.1 4), .int 0, .int 24, .int 0, .int 0, .long 0, .int 0])), ((u2.1 0), .inl (cB, 900, .inl (fun _ => 0))), ((u2.1 1), .inr (2, [.int 0, .ref (u2.1 5), .ref (u2.1 6), .ref (u2.1 7), .ref (u2.1 8), .ref (u2.1 9), .ref (u2.1 10), .ref (u2.1 11), .ref (u2.1 12)])), ((u2.1 5), .inl (cI, 10, .inl (u2.2 0))), ((u2.1 6), .inl (cI, 10, .inl (u2.2 1))), ((u2.1 7), .inl (cI, 10, .inl (u2.2 2))), ((u2.1 11), .inl (cI, 20, .inl (u2.2 3))), ((u2.1 12), .inl (cI, 20, .inl (fun _ => 0))), ((u2.1 2), .inr (7, [.int 0, .ref (u2.1 13)])), (q5, .inr (2, [.int 0, .ref (u6.1 0), .ref (u6.1 1), .ref (u6.1 2), .ref (u6.1 3), .ref (u6.1 4), .ref (u6.1 5), .ref (u6.1 6), .ref (u6.1 7)])), ((u6.1 7), .inl (cI, 20, .inl (fun _ => 0))), (q9, .inr (7, [.int 0, .ref (u10.1 0)])), (q19, .inr (5, [.int 0, .int 0, .null, .null]))]) (fun _ => rfl) (fun q19 H hP hD hS => ?_)
  refine lv_dup hx hb dX8_init_117 rfl ?_
  refine r_callNv (As := []) (rest := [.ref q19, .ref b]) (wr := [(b, .inr (8, [.int 0, .int 0, .ref q1, .ref q3, .ref q5, .ref q7, .ref q9, .ref q11, .ref q13, .ref q15, .ref q17, .null, .null, .null])), (q1, .inr (3, [.ref (u2.1 0), .int 0, .ref (u2.1 1), .ref (u2.1 2), .int 0, .int 0, .ref (u2.1 3), .ref (u2.1 4), .int 0, .int 24, .int 0, .int 0, .long 0, .int 0])), ((u2.1 0), .inl (cB, 900, .inl (fun _ => 0))), ((u2.1 1), .inr (2, [.int 0, .ref (u2.1 5), .ref (u2.1 6), .ref (u2.1 7), .ref (u2.1 8), .ref (u2.1 9), .ref (u2.1 10), .ref (u2.1 11), .ref (u2.1 12)])), ((u2.1 5), .inl (cI, 10, .inl (u2.2 0))), ((u2.1 6), .inl (cI, 10, .inl (u2.2 1))), ((u2.1 7), .inl (cI, 10, .inl (u2.2 2))), ((u2.1 11), .inl (cI, 20, .inl (u2.2 3))), ((u2.1 12), .inl (cI, 20, .inl (fun _ => 0))), ((u2.1 2), .inr (7, [.int 0, .ref (u2.1 13)])), (q5, .inr (2, [.int 0, .ref (u6.1 0), .ref (u6.1 1), .ref (u6.1 2), .ref (u6.1 3), .ref (u6.1 4), .ref (u6.1 5), .ref (u6.1 6), .ref (u6.1 7)])), ((u6.1 7), .inl (cI, 20, .inl (fun _ => 0))), (q9, .inr (7, [.int 0, .ref (u10.1 0)]))]) F hK hP hD hS hA hO hE (c_X5_init hO q19) (hN _ _ hE).2.2.2.2.2.1 ki_X5_init rfl 0 rfl (by decide +kernel) ⟨Nat.le_of_ble_eq_true rfl, Nat.le_of_ble_eq_true rfl⟩ [13] [0, 1, 2, 3, 4, 5, 6, 7, 8, 9, 10, 11, 12] rfl rfl (by decide) (by decide) (by decide) hl.1 rfl (Nat.le_of_ble_eq_true rfl) dX8_init_118 ⟨Nat.le_of_ble_eq_true rfl, Nat.le_of_ble_eq_true rfl⟩ (w1 := fun u20 => [(b, .inr (8, [.int 0, .int 0, .ref q1, .ref q3, .ref q5, .ref q7, .ref q9, .ref q11, .ref q13, .ref q15, .ref q17, .null, .null, .null])), (q1, .inr (3, [.ref (u2.1 0), .int 0, .ref (u2.1 1), .ref (u2.1 2), .int 0, .int 0, .ref (u2.1 3), .ref (u2.1 4), .int 0, .int 24, .int 0, .int 0, .long 0, .int 0])), ((u2.1 0), .inl (cB, 900, .inl (fun _ => 0))), ((u2.1 1), .inr (2, [.int 0, .ref (u2.1 5), .ref (u2.1 6), .ref (u2.1 7), .ref (u2.1 8), .ref (u2.1 9), .ref (u2.1 10), .ref (u2.1 11), .ref (u2.1 12)])), ((u2.1 5), .inl (cI, 10, .inl (u2.2 0))), ((u2.1 6), .inl (cI, 10, .inl (u2.2 1))), ((u2.1 7), .inl (cI, 10, .inl (u2.2 2))), ((u2.1 11), .inl (cI, 20, .inl (u2.2 3))), ((u2.1 12), .inl (cI, 20, .inl (fun _ => 0))), ((u2.1 2), .inr (7, [.int 0, .ref (u2.1 13)])), (q5, .inr (2, [.int 0, .ref (u6.1 0), .ref (u6.1 1), .ref (u6.1 2), .ref (u6.1 3), .ref (u6.1 4), .ref (u6.1 5), .ref (u6.1 6), .ref (u6.1 7)])), ((u6.1 7), .inl (cI, 20, .inl (fun _ => 0))), (q9, .inr (7, [.int 0, .ref (u10.1 0)]))]) (fun _ => rfl) (fun  u20 H locs hp hP hD hS => ?_)
  refine r_putF F hK hP hD hS 0 11 rfl rfl in_X8 tyX8 tyX8_ok nmX8 (by decide) k_506 rfl hin rfl rfl rfl (Nat.le_of_ble_eq_true rfl) dX8_init_121 (w1 := [(b, .inr (8, [.int 0, .int 0, .ref q1, .ref q3, .ref q5, .ref q7, .ref q9, .ref q11, .ref q13, .ref q15, .ref q17, .ref q19, .null, .null])), (q1, .inr (3, [.ref (u2.1 0), .int 0, .ref (u2.1 1), .ref (u2.1 2), .int 0, .int 0, .ref (u2.1 3), .ref (u2.1 4), .int 0, .int 24, .int 0, .int 0, .long 0, .int 0])), ((u2.1 0), .inl (cB, 900, .inl (fun _ => 0))), ((u2.1 1), .inr (2, [.int 0, .ref (u2.1 5), .ref (u2.1 6), .ref (u2.1 7), .ref (u2.1 8), .ref (u2.1 9), .ref (u2.1 10), .ref (u2.1 11), .ref (u2.1 12)])), ((u2.1 5), .inl (cI, 10, .inl (u2.2 0))), ((u2.1 6), .inl (cI, 10, .inl (u2.2 1))), ((u2.1 7), .inl (cI, 10, .inl (u2.2 2))), ((u2.1 11), .inl (cI, 20, .inl (u2.2 3))), ((u2.1 12), .inl (cI, 20, .inl (fun _ => 0))), ((u2.1 2), .inr (7, [.int 0, .ref (u2.1 13)])), (q5, .inr (2, [.int 0, .ref (u6.1 0), .ref (u6.1 1), .ref (u6.1 2), .ref (u6.1 3), .ref (u6.1 4), .ref (u6.1 5), .ref (u6.1 6), .ref (u6.1 7)])), ((u6.1 7), .inl (cI, 20, .inl (fun _ => 0))), (q9, .inr (7, [.int 0, .ref (u10.1 0)]))]) rfl (fun H locs hP hD hS => ?_)
  refine lv_aload_n hx hb dX8_init_124 rfl (lv_at hl 0 rfl) ?_
  refine r_new (ci := 0) (fs := [.null, .null, .null, .null, .null, .null, .null]) F hK hP hD hS hA rfl in_X0 tyX0 tyX0_ok k_442 k_443 k_105 (bw_dflt rfl) (Nat.le_of_ble_eq_true rfl) (Nat.le_of_ble_eq_true rfl) dX8_init_125 (w1 := fun q21 => [(b, .inr (8, [.int 0, .int 0, .ref q1, .ref q3, .ref q5, .ref q7, .ref q9, .ref q11, .ref q13, .ref q15, .ref q17, .ref q19, .null, .null])), (q1, .inr (3, [.ref (u2.1 0), .int 0, .ref (u2.1 1), .ref (u2.1 2), .int 0, .int 0, .ref (u2.1 3), .ref (u2.1 4), .int 0, .int 24, .int 0, .int 0, .long 0, .int 0])), ((u2.1 0), .inl (cB, 900, .inl (fun _ => 0))), ((u2.1 1), .inr (2, [.int 0, .ref (u2.1 5), .ref (u2.1 6), .ref (u2.1 7), .ref (u2.1 8), .ref (u2.1 9), .ref (u2.1 10), .ref (u2.1 11), .ref (u2.1 12)])), ((u2.1 5), .inl (cI, 10, .inl (u2.2 0))), ((u2.1 6), .inl (cI, 10, .inl (u2.2 1))), ((u2.1 7), .inl (cI, 10, .inl (u2.2 2))), ((u2.1 11), .inl (cI, 20, .inl (u2.2 3))), ((u2.1 12), .inl (cI, 20, .inl (fun _ => 0))), ((u2.1 2), .inr (7, [.int 0, .ref (u2.1 13)])), (q5, .inr (2, [.int 0, .ref (u6.1 0), .ref (u6.1 1), .ref (u6.1 2), .ref (u6.1 3), .ref (u6.1 4), .ref (u6.1 5), .ref (u6.1 6), .ref (u6.1 7)])), ((u6.1 7), .inl (cI, 20, .inl (fun _ => 0))), (q9, .inr (7, [.int 0, .ref (u10.1 0)])), (q21, .inr (0, [.null, .null, .null, .null, .null, .null, .null]))]) (fun _ => rfl) (fun q21 H hP hD hS => ?_)
  refine lv_dup hx hb dX8_init_128 rfl ?_
  refine r_callNv (As := []) (rest := [.ref q21, .ref b]) (wr := [(b, .inr (8, [.int 0, .int 0, .ref q1, .ref q3, .ref q5, .ref q7, .ref q9, .ref q11, .ref q13, .ref q15, .ref q17, .ref q19, .null, .null])), (q1, .inr (3, [.ref (u2.1 0), .int 0, .ref (u2.1 1), .ref (u2.1 2), .int 0, .int 0, .ref (u2.1 3), .ref (u2.1 4), .int 0, .int 24, .int 0, .int 0, .long 0, .int 0])), ((u2.1 0), .inl (cB, 900, .inl (fun _ => 0))), ((u2.1 1), .inr (2, [.int 0, .ref (u2.1 5), .ref (u2.1 6), .ref (u2.1 7), .ref (u2.1 8), .ref (u2.1 9), .ref (u2.1 10), .ref (u2.1 11), .ref (u2.1 12)])), ((u2.1 5), .inl (cI, 10, .inl (u2.2 0))), ((u2.1 6), .inl (cI, 10, .inl (u2.2 1))), ((u2.1 7), .inl (cI, 10, .inl (u2.2 2))), ((u2.1 11), .inl (cI, 20, .inl (u2.2 3))), ((u2.1 12), .inl (cI, 20, .inl (fun _ => 0))), ((u2.1 2), .inr (7, [.int 0, .ref (u2.1 13)])), (q5, .inr (2, [.int 0, .ref (u6.1 0), .ref (u6.1 1), .ref (u6.1 2), .ref (u6.1 3), .ref (u6.1 4), .ref (u6.1 5), .ref (u6.1 6), .ref (u6.1 7)])), ((u6.1 7), .inl (cI, 20, .inl (fun _ => 0))), (q9, .inr (7, [.int 0, .ref (u10.1 0)]))]) F hK hP hD hS hA hO hE (c_X0_init hO q21) (hN _ _ hE).2.2.2.2.2.2.1 ki_X0_init rfl 0 rfl (by decide +kernel) ⟨Nat.le_of_ble_eq_true rfl, Nat.le_of_ble_eq_true rfl⟩ [13] [0, 1, 2, 3, 4, 5, 6, 7, 8, 9, 10, 11, 12] rfl rfl (by decide) (by decide) (by decide) hl.1 rfl (Nat.le_of_ble_eq_true rfl) dX8_init_129 ⟨Nat.le_of_ble_eq_true rfl, Nat.le_of_ble_eq_true rfl⟩ (w1 := fun u22 => [(b, .inr (8, [.int 0, .int 0, .ref q1, .ref q3, .ref q5, .ref q7, .ref q9, .ref q11, .ref q13, .ref q15, .ref q17, .ref q19, .null, .null])), (q1, .inr (3, [.ref (u2.1 0), .int 0, .ref (u2.1 1), .ref (u2.1 2), .int 0, .int 0, .ref (u2.1 3), .ref (u2.1 4), .int 0, .int 24, .int 0, .int 0, .long 0, .int 0])), ((u2.1 0), .inl (cB, 900, .inl (fun _ => 0))), ((u2.1 1), .inr (2, [.int 0, .ref (u2.1 5), .ref (u2.1 6), .ref (u2.1 7), .ref (u2.1 8), .ref (u2.1 9), .ref (u2.1 10), .ref (u2.1 11), .ref (u2.1 12)])), ((u2.1 5), .inl (cI, 10, .inl (u2.2 0))), ((u2.1 6), .inl (cI, 10, .inl (u2.2 1))), ((u2.1 7), .inl (cI, 10, .inl (u2.2 2))), ((u2.1 11), .inl (cI, 20, .inl (u2.2 3))), ((u2.1 12), .inl (cI, 20, .inl (fun _ => 0))), ((u2.1 2), .inr (7, [.int 0, .ref (u2.1 13)])), (q5, .inr (2, [.int 0, .ref (u6.1 0), .ref (u6.1 1), .ref (u6.1 2), .ref (u6.1 3), .ref (u6.1 4), .ref (u6.1 5), .ref (u6.1 6), .ref (u6.1 7)])), ((u6.1 7), .inl (cI, 20, .inl (fun _ => 0))), (q9, .inr (7, [.int 0, .ref (u10.1 0)]))]) (fun _ => rfl) (fun  u22 H locs hp hP hD hS => ?_)
  refine r_putF F hK hP hD hS 0 12 rfl rfl in_X8 tyX8 tyX8_ok nmX8 (by decide) k_507 rfl hin rfl rfl rfl (Nat.le_of_ble_eq_true rfl) dX8_init_132 (w1 := [(b, .inr (8, [.int 0, .int 0, .ref q1, .ref q3, .ref q5, .ref q7, .ref q9, .ref q11, .ref q13, .ref q15, .ref q17, .ref q19, .ref q21, .null])), (q1, .inr (3, [.ref (u2.1 0), .int 0, .ref (u2.1 1), .ref (u2.1 2), .int 0, .int 0, .ref (u2.1 3), .ref (u2.1 4), .int 0, .int 24, .int 0, .int 0, .long 0, .int 0])), ((u2.1 0), .inl (cB, 900, .inl (fun _ => 0))), ((u2.1 1), .inr (2, [.int 0, .ref (u2.1 5), .ref (u2.1 6), .ref (u2.1 7), .ref (u2.1 8), .ref (u2.1 9), .ref (u2.1 10), .ref (u2.1 11), .ref (u2.1 12)])), ((u2.1 5), .inl (cI, 10, .inl (u2.2 0))), ((u2.1 6), .inl (cI, 10, .inl (u2.2 1))), ((u2.1 7), .inl (cI, 10, .inl (u2.2 2))), ((u2.1 11), .inl (cI, 20, .inl (u2.2 3))), ((u2.1 12), .inl (cI, 20, .inl (fun _ => 0))), ((u2.1 2), .inr (7, [.int 0, .ref (u2.1 13)])), (q5, .inr (2, [.int 0, .ref (u6.1 0), .ref (u6.1 1), .ref (u6.1 2), .ref (u6.1 3), .ref (u6.1 4), .ref (u6.1 5), .ref (u6.1 6), .ref (u6.1 7)])), ((u6.1 7), .inl (cI, 20, .inl (fun _ => 0))), (q9, .inr (7, [.int 0, .ref (u10.1 0)]))]) rfl (fun H locs hP hD hS => ?_)
  refine lv_aload_n hx hb dX8_init_135 rfl (lv_at hl 0 rfl) ?_
  refine r_new (ci := 1) (fs := [.int 0, .null, .null]) F hK hP hD hS hA rfl in_X1 tyX1 tyX1_ok k_470 k_471 k_106 (bw_dflt rfl) (Nat.le_of_ble_eq_true rfl) (Nat.le_of_ble_eq_true rfl) dX8_init_136 (w1 := fun q23 => [(b, .inr (8, [.int 0, .int 0, .ref q1, .ref q3, .ref q5, .ref q7, .ref q9, .ref q11, .ref q13, .ref q15, .ref q17, .ref q19, .ref q21, .null])), (q1, .inr (3, [.ref (u2.1 0), .int 0, .ref (u2.1 1), .ref (u2.1 2), .int 0, .int 0, .ref (u2.1 3), .ref (u2.1 4), .int 0, .int 24, .int 0, .int 0, .long 0, .int 0])), ((u2.1 0), .inl (cB, 900, .inl (fun _ => 0))), ((u2.1 1), .inr (2, [.int 0, .ref (u2.1 5), .ref (u2.1 6), .ref (u2.1 7), .ref (u2.1 8), .ref (u2.1 9), .ref (u2.1 10), .ref (u2.1 11), .ref (u2.1 12)])), ((u2.1 5), .inl (cI, 10, .inl (u2.2 0))), ((u2.1 6), .inl (cI, 10, .inl (u2.2 1))), ((u2.1 7), .inl (cI, 10, .inl (u2.2 2))), ((u2.1 11), .inl (cI, 20, .inl (u2.2 3))), ((u2.1 12), .inl (cI, 20, .inl (fun _ => 0))), ((u2.1 2), .inr (7, [.int 0, .ref (u2.1 13)])), (q5, .inr (2, [.int 0, .ref (u6.1 0), .ref (u6.1 1), .ref (u6.1 2), .ref (u6.1 3), .ref (u6.1 4), .ref (u6.1 5), .ref (u6.1 6), .ref (u6.1 7)])), ((u6.1 7), .inl (cI, 20, .inl (fun _ => 0))), (q9, .inr (7, [.int 0, .ref (u10.1 0)])), (q23, .inr (1, [.int 0, .null, .null]))]) (fun _ => rfl) (fun q23 H hP hD hS => ?_)
  refine lv_dup hx hb dX8_init_139 rfl ?_
  refine r_callIv (As := []) (rest := [.ref q23, .ref b]) (wr := [(b, .inr (8, [.int 0, .int 0, .ref q1, .ref q3, .ref q5, .ref q7, .ref q9, .ref q11, .ref q13, .ref q15, .ref q17, .ref q19, .ref q21, .null])), (q1, .inr (3, [.ref (u2.1 0), .int 0, .ref (u2.1 1), .ref (u2.1 2), .int 0, .int 0, .ref (u2.1 3), .ref (u2.1 4), .int 0, .int 24, .int 0, .int 0, .long 0, .int 0])), ((u2.1 0), .inl (cB, 900, .inl (fun _ => 0))), ((u2.1 1), .inr (2, [.int 0, .ref (u2.1 5), .ref (u2.1 6), .ref (u2.1 7), .ref (u2.1 8), .ref (u2.1 9), .ref (u2.1 10), .ref (u2.1 11), .ref (u2.1 12)])), ((u2.1 5), .inl (cI, 10, .inl (u2.2 0))), ((u2.1 6), .inl (cI, 10, .inl (u2.2 1))), ((u2.1 7), .inl (cI, 10, .inl (u2.2 2))), ((u2.1 11), .inl (cI, 20, .inl (u2.2 3))), ((u2.1 12), .inl (cI, 20, .inl (fun _ => 0))), ((u2.1 2), .inr (7, [.int 0, .ref (u2.1 13)])), (q5, .inr (2, [.int 0, .ref (u6.1 0), .ref (u6.1 1), .ref (u6.1 2), .ref (u6.1 3), .ref (u6.1 4), .ref (u6.1 5), .ref (u6.1 6), .ref (u6.1 7)])), ((u6.1 7), .inl (cI, 20, .inl (fun _ => 0))), (q9, .inr (7, [.int 0, .ref (u10.1 0)]))]) F hK hP hD hS hA hO hE (c_X1_init hO hN q23) k_472 ki_X1_init rfl 0 rfl (by decide +kernel) ⟨Nat.le_of_ble_eq_true rfl, Nat.le_of_ble_eq_true rfl⟩ [13] [0, 1, 2, 3, 4, 5, 6, 7, 8, 9, 10, 11, 12] rfl rfl (by decide) (by decide) (by decide) hl.1 rfl (Nat.le_of_ble_eq_true rfl) dX8_init_140 ⟨Nat.le_of_ble_eq_true rfl, Nat.le_of_ble_eq_true rfl⟩ (w1 := fun u24 => [(b, .inr (8, [.int 0, .int 0, .ref q1, .ref q3, .ref q5, .ref q7, .ref q9, .ref q11, .ref q13, .ref q15, .ref q17, .ref q19, .ref q21, .null])), (q1, .inr (3, [.ref (u2.1 0), .int 0, .ref (u2.1 1), .ref (u2.1 2), .int 0, .int 0, .ref (u2.1 3), .ref (u2.1 4), .int 0, .int 24, .int 0, .int 0, .long 0, .int 0])), ((u2.1 0), .inl (cB, 900, .inl (fun _ => 0))), ((u2.1 1), .inr (2, [.int 0, .ref (u2.1 5), .ref (u2.1 6), .ref (u2.1 7), .ref (u2.1 8), .ref (u2.1 9), .ref (u2.1 10), .ref (u2.1 11), .ref (u2.1 12)])), ((u2.1 5), .inl (cI, 10, .inl (u2.2 0))), ((u2.1 6), .inl (cI, 10, .inl (u2.2 1))), ((u2.1 7), .inl (cI, 10, .inl (u2.2 2))), ((u2.1 11), .inl (cI, 20, .inl (u2.2 3))), ((u2.1 12), .inl (cI, 20, .inl (fun _ => 0))), ((u2.1 2), .inr (7, [.int 0, .ref (u2.1 13)])), (q5, .inr (2, [.int 0, .ref (u6.1 0), .ref (u6.1 1), .ref (u6.1 2), .ref (u6.1 3), .ref (u6.1 4), .ref (u6.1 5), .ref (u6.1 6), .ref (u6.1 7)])), ((u6.1 7), .inl (cI, 20, .inl (fun _ => 0))), (q9, .inr (7, [.int 0, .ref (u10.1 0)])), (q23, .inr (1, [.int 0, .ref (u24.1 0), .ref (u24.1 1)]))]) (fun _ => rfl) (fun  u24 H locs hp hP hD hS => ?_)
  refine r_putF F hK hP hD hS 0 13 rfl rfl in_X8 tyX8 tyX8_ok nmX8 (by decide) k_508 rfl hin rfl rfl rfl (Nat.le_of_ble_eq_true rfl) dX8_init_143 (w1 := [(b, .inr (8, [.int 0, .int 0, .ref q1, .ref q3, .ref q5, .ref q7, .ref q9, .ref q11, .ref q13, .ref q15, .ref q17, .ref q19, .ref q21, .ref q23])), (q1, .inr (3, [.ref (u2.1 0), .int 0, .ref (u2.1 1), .ref (u2.1 2), .int 0, .int 0, .ref (u2.1 3), .ref (u2.1 4), .int 0, .int 24, .int 0, .int 0, .long 0, .int 0])), ((u2.1 0), .inl (cB, 900, .inl (fun _ => 0))), ((u2.1 1), .inr (2, [.int 0, .ref (u2.1 5), .ref (u2.1 6), .ref (u2.1 7), .ref (u2.1 8), .ref (u2.1 9), .ref (u2.1 10), .ref (u2.1 11), .ref (u2.1 12)])), ((u2.1 5), .inl (cI, 10, .inl (u2.2 0))), ((u2.1 6), .inl (cI, 10, .inl (u2.2 1))), ((u2.1 7), .inl (cI, 10, .inl (u2.2 2))), ((u2.1 11), .inl (cI, 20, .inl (u2.2 3))), ((u2.1 12), .inl (cI, 20, .inl (fun _ => 0))), ((u2.1 2), .inr (7, [.int 0, .ref (u2.1 13)])), (q5, .inr (2, [.int 0, .ref (u6.1 0), .ref (u6.1 1), .ref (u6.1 2), .ref (u6.1 3), .ref (u6.1 4), .ref (u6.1 5), .ref (u6.1 6), .ref (u6.1 7)])), ((u6.1 7), .inl (cI, 20, .inl (fun _ => 0))), (q9, .inr (7, [.int 0, .ref (u10.1 0)])), (q23, .inr (1, [.int 0, .ref (u24.1 0), .ref (u24.1 1)]))]) rfl (fun H locs hP hD hS => ?_)
  exact ret ((fun k => [q1, q3, q5, q7, q9, q11, q13, q15, q17, q19, q21, q23, 0, 0, 0, 0, 0, 0, 0, 0, (u2.1 0), (u2.1 1), (u2.1 2), (u2.1 3), (u2.1 4), (u2.1 5), (u2.1 6), (u2.1 7), (u2.1 8), (u2.1 9), (u2.1 10), (u2.1 11), (u2.1 12), (u2.1 13), 0, 0, 0, 0, 0, 0, (u6.1 0), (u6.1 1), (u6.1 2), (u6.1 3), (u6.1 4), (u6.1 5), (u6.1 6), (u6.1 7), 0, 0, (u10.1 0), (u24.1 0), (u24.1 1)].getD k 0), (fun k => [(u2.2 0), (u2.2 1), (u2.2 2), (u2.2 3)].getD k (fun _ => 0))) _ _ _ _ _ _ trivial (bw_subP (isC := [0, 1, 2, 3, 4, 5, 6, 7, 8, 9, 10, 11, 12, 13]) hP rfl) (hD.sub [0, 1, 2, 3, 4, 5, 6, 7, 8, 9, 10, 11, 12, 13] (by decide) rfl) hS (Nat.le_of_ble_eq_true rfl) (Nat.le_of_ble_eq_true rfl) dX8_init_146
end
section
theorem dX9_init_0 : decode cX9_init 0 = .ok (.aload_n 0, 1) := by decide +kernel
theorem dX9_init_1 : decode cX9_init 1 = .ok (.invokespecial 1, 3) := by decide +kernel
theorem k_1162 : Cond.methodLink RX9 1 Lib.objectInit ∈ bw_T := bw_m 1162 (by decide +kernel) rfl
theorem dX9_init_4 : decode cX9_init 4 = .ok (.aload_n 0, 1) := by decide +kernel
theorem dX9_init_5 : decode cX9_init 5 = .ok (.sipush 900, 3) := by decide +kernel
theorem dX9_init_8 : decode cX9_init 8 = .ok (.newarray .int, 2) := by decide +kernel
theorem dX9_init_10 : decode cX9_init 10 = .ok (.putfield 7, 3) := by decide +kernel
theorem k_1164 : Cond.fieldLink RX9 7 "BurntWaysModel" "tape" "[I" ∈ bw_T := bw_m 1164 (by decide +kernel) rfl
theorem in_X9 : ∀ w ∈ wsX90, w ∈ bw_T := bw_ms _ [1203, 1205, 1207, 1209, 1211, 1213, 1215, 1217, 1219, 1221, 1223, 1225, 1227, 1229, 1231, 1233, 1235, 1237, 1239, 1241, 1243, 1245, 1247, 1249, 1251, 1253, 1255, 1257, 1259, 1261, 1263, 1265, 1267, 1269, 1271, 1273, 1275, 1277, 1279, 1281] (by decide +kernel) (by decide +kernel)
theorem dX9_init_13 : decode cX9_init 13 = .ok (.aload_n 0, 1) := by decide +kernel
theorem dX9_init_14 : decode cX9_init 14 = .ok (.iconst (-1), 1) := by decide +kernel
theorem dX9_init_15 : decode cX9_init 15 = .ok (.putfield 13, 3) := by decide +kernel
theorem k_1173 : Cond.fieldLink RX9 13 "BurntWaysModel" "place" "I" ∈ bw_T := bw_m 1173 (by decide +kernel) rfl
theorem dX9_init_18 : decode cX9_init 18 = .ok (.aload_n 0, 1) := by decide +kernel
theorem dX9_init_19 : decode cX9_init 19 = .ok (.bipush 8, 2) := by decide +kernel
theorem dX9_init_21 : decode cX9_init 21 = .ok (.newarray .int, 2) := by decide +kernel
theorem dX9_init_23 : decode cX9_init 23 = .ok (.putfield 17, 3) := by decide +kernel
theorem k_1175 : Cond.fieldLink RX9 17 "BurntWaysModel" "letters" "[I" ∈ bw_T := bw_m 1175 (by decide +kernel) rfl
theorem dX9_init_26 : decode cX9_init 26 = .ok (.aload_n 0, 1) := by decide +kernel
theorem dX9_init_27 : decode cX9_init 27 = .ok (.sipush 200, 3) := by decide +kernel
theorem dX9_init_30 : decode cX9_init 30 = .ok (.newarray .int, 2) := by decide +kernel
theorem dX9_init_32 : decode cX9_init 32 = .ok (.putfield 20, 3) := by decide +kernel
theorem k_1178 : Cond.fieldLink RX9 20 "BurntWaysModel" "fresh" "[I" ∈ bw_T := bw_m 1178 (by decide +kernel) rfl
theorem dX9_init_35 : decode cX9_init 35 = .ok (.aload_n 0, 1) := by decide +kernel
theorem dX9_init_36 : decode cX9_init 36 = .ok (.sipush 200, 3) := by decide +kernel
theorem dX9_init_39 : decode cX9_init 39 = .ok (.newarray .int, 2) := by decide +kernel
theorem dX9_init_41 : decode cX9_init 41 = .ok (.putfield 23, 3) := by decide +kernel
theorem k_1179 : Cond.fieldLink RX9 23 "BurntWaysModel" "now" "[I" ∈ bw_T := bw_m 1179 (by decide +kernel) rfl
theorem dX9_init_44 : decode cX9_init 44 = .ok (.aload_n 0, 1) := by decide +kernel
theorem dX9_init_45 : decode cX9_init 45 = .ok (.sipush 200, 3) := by decide +kernel
theorem dX9_init_48 : decode cX9_init 48 = .ok (.newarray .int, 2) := by decide +kernel
theorem dX9_init_50 : decode cX9_init 50 = .ok (.putfield 26, 3) := by decide +kernel
theorem k_1180 : Cond.fieldLink RX9 26 "BurntWaysModel" "told" "[I" ∈ bw_T := bw_m 1180 (by decide +kernel) rfl
theorem dX9_init_53 : decode cX9_init 53 = .ok (.aload_n 0, 1) := by decide +kernel
theorem dX9_init_54 : decode cX9_init 54 = .ok (.sipush 200, 3) := by decide +kernel
theorem dX9_init_57 : decode cX9_init 57 = .ok (.newarray .int, 2) := by decide +kernel
theorem dX9_init_59 : decode cX9_init 59 = .ok (.putfield 29, 3) := by decide +kernel
theorem k_1181 : Cond.fieldLink RX9 29 "BurntWaysModel" "tried" "[I" ∈ bw_T := bw_m 1181 (by decide +kernel) rfl
theorem dX9_init_62 : decode cX9_init 62 = .ok (.aload_n 0, 1) := by decide +kernel
theorem dX9_init_63 : decode cX9_init 63 = .ok (.sipush 800, 3) := by decide +kernel
theorem dX9_init_66 : decode cX9_init 66 = .ok (.newarray .int, 2) := by decide +kernel
theorem dX9_init_68 : decode cX9_init 68 = .ok (.putfield 32, 3) := by decide +kernel
theorem k_1182 : Cond.fieldLink RX9 32 "BurntWaysModel" "kept" "[I" ∈ bw_T := bw_m 1182 (by decide +kernel) rfl
theorem dX9_init_71 : decode cX9_init 71 = .ok (.aload_n 0, 1) := by decide +kernel
theorem dX9_init_72 : decode cX9_init 72 = .ok (.bipush 80, 2) := by decide +kernel
theorem dX9_init_74 : decode cX9_init 74 = .ok (.newarray .int, 2) := by decide +kernel
theorem dX9_init_76 : decode cX9_init 76 = .ok (.putfield 35, 3) := by decide +kernel
theorem k_1183 : Cond.fieldLink RX9 35 "BurntWaysModel" "names" "[I" ∈ bw_T := bw_m 1183 (by decide +kernel) rfl
theorem dX9_init_79 : decode cX9_init 79 = .ok (.aload_n 0, 1) := by decide +kernel
theorem dX9_init_80 : decode cX9_init 80 = .ok (.bipush 10, 2) := by decide +kernel
theorem dX9_init_82 : decode cX9_init 82 = .ok (.newarray .int, 2) := by decide +kernel
theorem dX9_init_84 : decode cX9_init 84 = .ok (.putfield 38, 3) := by decide +kernel
theorem k_1184 : Cond.fieldLink RX9 38 "BurntWaysModel" "nameSizes" "[I" ∈ bw_T := bw_m 1184 (by decide +kernel) rfl
theorem dX9_init_87 : decode cX9_init 87 = .ok (.aload_n 0, 1) := by decide +kernel
theorem dX9_init_88 : decode cX9_init 88 = .ok (.bipush 80, 2) := by decide +kernel
theorem dX9_init_90 : decode cX9_init 90 = .ok (.newarray .int, 2) := by decide +kernel
theorem dX9_init_92 : decode cX9_init 92 = .ok (.putfield 41, 3) := by decide +kernel
theorem k_1185 : Cond.fieldLink RX9 41 "BurntWaysModel" "newNames" "[I" ∈ bw_T := bw_m 1185 (by decide +kernel) rfl
theorem dX9_init_95 : decode cX9_init 95 = .ok (.aload_n 0, 1) := by decide +kernel
theorem dX9_init_96 : decode cX9_init 96 = .ok (.bipush 10, 2) := by decide +kernel
theorem dX9_init_98 : decode cX9_init 98 = .ok (.newarray .int, 2) := by decide +kernel
theorem dX9_init_100 : decode cX9_init 100 = .ok (.putfield 44, 3) := by decide +kernel
theorem k_1186 : Cond.fieldLink RX9 44 "BurntWaysModel" "newSizes" "[I" ∈ bw_T := bw_m 1186 (by decide +kernel) rfl
theorem dX9_init_103 : decode cX9_init 103 = .ok (.aload_n 0, 1) := by decide +kernel
theorem dX9_init_104 : decode cX9_init 104 = .ok (.bipush 30, 2) := by decide +kernel
theorem dX9_init_106 : decode cX9_init 106 = .ok (.newarray .int, 2) := by decide +kernel
theorem dX9_init_108 : decode cX9_init 108 = .ok (.putfield 47, 3) := by decide +kernel
theorem k_1187 : Cond.fieldLink RX9 47 "BurntWaysModel" "want" "[I" ∈ bw_T := bw_m 1187 (by decide +kernel) rfl
theorem dX9_init_111 : decode cX9_init 111 = .ok (.aload_n 0, 1) := by decide +kernel
theorem dX9_init_112 : decode cX9_init 112 = .ok (.bipush 30, 2) := by decide +kernel
theorem dX9_init_114 : decode cX9_init 114 = .ok (.newarray .int, 2) := by decide +kernel
theorem dX9_init_116 : decode cX9_init 116 = .ok (.putfield 50, 3) := by decide +kernel
theorem k_1188 : Cond.fieldLink RX9 50 "BurntWaysModel" "newWant" "[I" ∈ bw_T := bw_m 1188 (by decide +kernel) rfl
theorem dX9_init_119 : decode cX9_init 119 = .ok (.aload_n 0, 1) := by decide +kernel
theorem dX9_init_120 : decode cX9_init 120 = .ok (.sipush 159, 3) := by decide +kernel
theorem dX9_init_123 : decode cX9_init 123 = .ok (.newarray .int, 2) := by decide +kernel
theorem dX9_init_125 : decode cX9_init 125 = .ok (.putfield 53, 3) := by decide +kernel
theorem k_1189 : Cond.fieldLink RX9 53 "BurntWaysModel" "st" "[I" ∈ bw_T := bw_m 1189 (by decide +kernel) rfl
theorem dX9_init_128 : decode cX9_init 128 = .ok (.aload_n 0, 1) := by decide +kernel
theorem dX9_init_129 : decode cX9_init 129 = .ok (.sipush 159, 3) := by decide +kernel
theorem dX9_init_132 : decode cX9_init 132 = .ok (.newarray .int, 2) := by decide +kernel
theorem dX9_init_134 : decode cX9_init 134 = .ok (.putfield 56, 3) := by decide +kernel
theorem k_1190 : Cond.fieldLink RX9 56 "BurntWaysModel" "other" "[I" ∈ bw_T := bw_m 1190 (by decide +kernel) rfl
theorem dX9_init_137 : decode cX9_init 137 = .ok (.aload_n 0, 1) := by decide +kernel
theorem dX9_init_138 : decode cX9_init 138 = .ok (.sipush 159, 3) := by decide +kernel
theorem dX9_init_141 : decode cX9_init 141 = .ok (.newarray .int, 2) := by decide +kernel
theorem dX9_init_143 : decode cX9_init 143 = .ok (.putfield 59, 3) := by decide +kernel
theorem k_1191 : Cond.fieldLink RX9 59 "BurntWaysModel" "another" "[I" ∈ bw_T := bw_m 1191 (by decide +kernel) rfl
theorem dX9_init_146 : decode cX9_init 146 = .ok (.aload_n 0, 1) := by decide +kernel
theorem dX9_init_147 : decode cX9_init 147 = .ok (.sipush 636, 3) := by decide +kernel
theorem dX9_init_150 : decode cX9_init 150 = .ok (.newarray .int, 2) := by decide +kernel
theorem dX9_init_152 : decode cX9_init 152 = .ok (.putfield 62, 3) := by decide +kernel
theorem k_1192 : Cond.fieldLink RX9 62 "BurntWaysModel" "keptRuns" "[I" ∈ bw_T := bw_m 1192 (by decide +kernel) rfl
theorem dX9_init_155 : decode cX9_init 155 = .ok (.aload_n 0, 1) := by decide +kernel
theorem dX9_init_156 : decode cX9_init 156 = .ok (.bipush 20, 2) := by decide +kernel
theorem dX9_init_158 : decode cX9_init 158 = .ok (.newarray .int, 2) := by decide +kernel
theorem dX9_init_160 : decode cX9_init 160 = .ok (.putfield 65, 3) := by decide +kernel
theorem k_1199 : Cond.fieldLink RX9 65 "BurntWaysModel" "rest" "[I" ∈ bw_T := bw_m 1199 (by decide +kernel) rfl
theorem dX9_init_163 : decode cX9_init 163 = .ok (.aload_n 0, 1) := by decide +kernel
theorem dX9_init_164 : decode cX9_init 164 = .ok (.sipush 180, 3) := by decide +kernel
theorem dX9_init_167 : decode cX9_init 167 = .ok (.newarray .int, 2) := by decide +kernel
theorem dX9_init_169 : decode cX9_init 169 = .ok (.putfield 68, 3) := by decide +kernel
theorem k_1200 : Cond.fieldLink RX9 68 "BurntWaysModel" "trail" "[I" ∈ bw_T := bw_m 1200 (by decide +kernel) rfl
theorem dX9_init_172 : decode cX9_init 172 = .ok (.aload_n 0, 1) := by decide +kernel
theorem dX9_init_173 : decode cX9_init 173 = .ok (.sipush 200, 3) := by decide +kernel
theorem dX9_init_176 : decode cX9_init 176 = .ok (.newarray .int, 2) := by decide +kernel
theorem dX9_init_178 : decode cX9_init 178 = .ok (.putfield 71, 3) := by decide +kernel
theorem k_1201 : Cond.fieldLink RX9 71 "BurntWaysModel" "least" "[I" ∈ bw_T := bw_m 1201 (by decide +kernel) rfl
theorem dX9_init_181 : decode cX9_init 181 = .ok (.aload_n 0, 1) := by decide +kernel
theorem dX9_init_182 : decode cX9_init 182 = .ok (.iconst 3, 1) := by decide +kernel
theorem dX9_init_183 : decode cX9_init 183 = .ok (.newarray .int, 2) := by decide +kernel
theorem dX9_init_185 : decode cX9_init 185 = .ok (.putfield 74, 3) := by decide +kernel
theorem k_1202 : Cond.fieldLink RX9 74 "BurntWaysModel" "numbers" "[I" ∈ bw_T := bw_m 1202 (by decide +kernel) rfl
theorem dX9_init_188 : decode cX9_init 188 = .ok (.return_, 1) := by decide +kernel
abbrev rm_X9_init : Room := { frames := 1, cells := 21, slots := 4264, locals := 12 }
set_option maxRecDepth 100000 in
set_option maxHeartbeats 4000000 in
theorem c_X9_init {l : Launch} {E : (Nat → Prop) → State → Prop} (hO : bw_Ok E) {G : va_G} {cI cB cJ cN cW : ClassId} (b : Nat) : bw_Cv (S := bw_U) l yX9_init (bw_ws (Cond.code yX9_init cX9_init 1 none)) rm_X9_init E G (bw_kt cI cB cJ cN cW) [.ref b] [(b, .inr (9, [.int 0, .null, .int 0, .int 0, .int 0, .int 0, .int 0, .int 0, .int 0, .int 0, .int 0, .int 0, .null, .int 0, .int 0, .null, .null, .null, .null, .null, .null, .null, .null, .null, .null, .null, .null, .null, .null, .null, .int 0, .int 0, .int 0, .int 0, .int 0, .int 0, .null, .null, .null, .null]))] (fun _ => True) (fun u => [(b, .inr (9, [.int 0, .ref (u.1 0), .int 0, .int 0, .int 0, .int 0, .int 0, .int 0, .int 0, .int 0, .int (-1), .int 0, .ref (u.1 1), .int 0, .int 0, .ref (u.1 2), .ref (u.1 3), .ref (u.1 4), .ref (u.1 5), .ref (u.1 6), .ref (u.1 7), .ref (u.1 8), .ref (u.1 9), .ref (u.1 10), .ref (u.1 11), .ref (u.1 12), .ref (u.1 13), .ref (u.1 14), .ref (u.1 15), .ref (u.1 16), .int 0, .int 0, .int 0, .int 0, .int 0, .int 0, .ref (u.1 17), .ref (u.1 18), .ref (u.1 19), .ref (u.1 20)])), ((u.1 0), .inl (cI, 900, .inl (fun _ => 0))), ((u.1 2), .inl (cI, 200, .inl (fun _ => 0)))]) := by
  refine bw_Cv.of (cc := cX9_init) (maxL := 1) (by decide) rfl (Nat.le_of_ble_eq_true rfl) ?_
  intro p e s m below meth c A Q hx hb hml hts hown hin hK hA hS hP hD hE ret ls hl
  have F : CallFix p m c cX9_init 1 s ([.ref b] : List Value).toArray bw_T RX9 := ⟨hx, hb, hml, hown, fun w h => hts w (List.mem_cons_of_mem _ h)⟩
  have hl : lv_has ls 1 [(0, .ref b)] := hl
  refine lv_aload_n hx hb dX9_init_0 rfl (lv_at hl 0 rfl) ?_
  refine r_objInit F k_1162 k_oi k_oc hl.1 dX9_init_1 (Nat.le_of_ble_eq_true rfl) (Nat.le_of_ble_eq_true rfl) ?_
  refine lv_aload_n hx hb dX9_init_4 rfl (lv_at hl 0 rfl) ?_
  refine lv_sipush (v := 900) hx hb dX9_init_5 (by decide) ?_
  refine r_newa (atype := .int) (ty := .int) F rfl k_194 hK hP hD hS hA 0 rfl 900 (900, .inl (fun _ => 0)) (bw_cI 900) (by decide) (by decide) (bw_by (k := 4) rfl (by omega)) (Nat.le_of_ble_eq_true rfl) (Nat.le_of_ble_eq_true rfl) dX9_init_8 (w1 := fun q1 => [(b, .inr (9, [.int 0, .null, .int 0, .int 0, .int 0, .int 0, .int 0, .int 0, .int 0, .int 0, .int 0, .int 0, .null, .int 0, .int 0, .null, .null, .null, .null, .null, .null, .null, .null, .null, .null, .null, .null, .null, .null, .null, .int 0, .int 0, .int 0, .int 0, .int 0, .int 0, .null, .null, .null, .null])), (q1, .inl (cI, 900, .inl (fun _ => 0)))]) (fun _ => rfl) (fun q1 H hP hD hS => ?_)
  refine r_putF F hK hP hD hS 0 1 rfl rfl in_X9 tyX9 tyX9_ok nmX9 (by decide) k_1164 rfl hin rfl rfl rfl (Nat.le_of_ble_eq_true rfl) dX9_init_10 (w1 := [(b, .inr (9, [.int 0, .ref q1, .int 0, .int 0, .int 0, .int 0, .int 0, .int 0, .int 0, .int 0, .int 0, .int 0, .null, .int 0, .int 0, .null, .null, .null, .null, .null, .null, .null, .null, .null, .null, .null, .null, .null, .null, .null, .int 0, .int 0, .int 0, .int 0, .int 0, .int 0, .null, .null, .null, .null])), (q1, .inl (cI, 900, .inl (fun _ => 0)))]) rfl (fun H locs hP hD hS => ?_)
  refine lv_aload_n hx hb dX9_init_13 rfl (lv_at hl 0 rfl) ?_
  refine lv_iconst (v := (-1)) hx hb dX9_init_14 (by decide) ?_
  refine r_put F hK hP hD hS 0 10 rfl rfl in_X9 tyX9 tyX9_ok nmX9 (by decide) k_1173 rfl rfl rfl (Nat.le_of_ble_eq_true rfl) dX9_init_15 (w1 := [(b, .inr (9, [.int 0, .ref q1, .int 0, .int 0, .int 0, .int 0, .int 0, .int 0, .int 0, .int 0, .int (-1), .int 0, .null, .int 0, .int 0, .null, .null, .null, .null, .null, .null, .null, .null, .null, .null, .null, .null, .null, .null, .null, .int 0, .int 0, .int 0, .int 0, .int 0, .int 0, .null, .null, .null, .null])), (q1, .inl (cI, 900, .inl (fun _ => 0)))]) rfl (fun H locs hP hD hS => ?_)
  refine lv_aload_n hx hb dX9_init_18 rfl (lv_at hl 0 rfl) ?_
  refine lv_bipush (v := 8) hx hb dX9_init_19 (by decide) ?_
  refine r_newa (atype := .int) (ty := .int) F rfl k_194 hK hP hD hS hA 0 rfl 8 (8, .inl (fun _ => 0)) (bw_cI 8) (by decide) (by decide) (bw_by (k := 4) rfl (by omega)) (Nat.le_of_ble_eq_true rfl) (Nat.le_of_ble_eq_true rfl) dX9_init_21 (w1 := fun q2 => [(b, .inr (9, [.int 0, .ref q1, .int 0, .int 0, .int 0, .int 0, .int 0, .int 0, .int 0, .int 0, .int (-1), .int 0, .null, .int 0, .int 0, .null, .null, .null, .null, .null, .null, .null, .null, .null, .null, .null, .null, .null, .null, .null, .int 0, .int 0, .int 0, .int 0, .int 0, .int 0, .null, .null, .null, .null])), (q1, .inl (cI, 900, .inl (fun _ => 0))), (q2, .inl (cI, 8, .inl (fun _ => 0)))]) (fun _ => rfl) (fun q2 H hP hD hS => ?_)
  refine r_putF F hK hP hD hS 0 12 rfl rfl in_X9 tyX9 tyX9_ok nmX9 (by decide) k_1175 rfl hin rfl rfl rfl (Nat.le_of_ble_eq_true rfl) dX9_init_23 (w1 := [(b, .inr (9, [.int 0, .ref q1, .int 0, .int 0, .int 0, .int 0, .int 0, .int 0, .int 0, .int 0, .int (-1), .int 0, .ref q2, .int 0, .int 0, .null, .null, .null, .null, .null, .null, .null, .null, .null, .null, .null, .null, .null, .null, .null, .int 0, .int 0, .int 0, .int 0, .int 0, .int 0, .null, .null, .null, .null])), (q1, .inl (cI, 900, .inl (fun _ => 0))), (q2, .inl (cI, 8, .inl (fun _ => 0)))]) rfl (fun H locs hP hD hS => ?_)
  have hP := bw_subP (isC := [0, 1]) (wc := [(b, .inr (9, [.int 0, .ref q1, .int 0, .int 0, .int 0, .int 0, .int 0, .int 0, .int 0, .int 0, .int (-1), .int 0, .ref q2, .int 0, .int 0, .null, .null, .null, .null, .null, .null, .null, .null, .null, .null, .null, .null, .null, .null, .null, .int 0, .int 0, .int 0, .int 0, .int 0, .int 0, .null, .null, .null, .null])), (q1, .inl (cI, 900, .inl (fun _ => 0)))]) hP rfl
  have hD := hD.sub (ws' := [(b, .inr (9, [.int 0, .ref q1, .int 0, .int 0, .int 0, .int 0, .int 0, .int 0, .int 0, .int 0, .int (-1), .int 0, .ref q2, .int 0, .int 0, .null, .null, .null, .null, .null, .null, .null, .null, .null, .null, .null, .null, .null, .null, .null, .int 0, .int 0, .int 0, .int 0, .int 0, .int 0, .null, .null, .null, .null])), (q1, .inl (cI, 900, .inl (fun _ => 0)))]) [0, 1] (by decide) rfl
  refine lv_aload_n hx hb dX9_init_26 rfl (lv_at hl 0 rfl) ?_
  refine lv_sipush (v := 200) hx hb dX9_init_27 (by decide) ?_
  refine r_newa (atype := .int) (ty := .int) F rfl k_194 hK hP hD hS hA 0 rfl 200 (200, .inl (fun _ => 0)) (bw_cI 200) (by decide) (by decide) (bw_by (k := 4) rfl (by omega)) (Nat.le_of_ble_eq_true rfl) (Nat.le_of_ble_eq_true rfl) dX9_init_30 (w1 := fun q3 => [(b, .inr (9, [.int 0, .ref q1, .int 0, .int 0, .int 0, .int 0, .int 0, .int 0, .int 0, .int 0, .int (-1), .int 0, .ref q2, .int 0, .int 0, .null, .null, .null, .null, .null, .null, .null, .null, .null, .null, .null, .null, .null, .null, .null, .int 0, .int 0, .int 0, .int 0, .int 0, .int 0, .null, .null, .null, .null])), (q1, .inl (cI, 900, .inl (fun _ => 0))), (q3, .inl (cI, 200, .inl (fun _ => 0)))]) (fun _ => rfl) (fun q3 H hP hD hS => ?_)
  refine r_putF F hK hP hD hS 0 15 rfl rfl in_X9 tyX9 tyX9_ok nmX9 (by decide) k_1178 rfl hin rfl rfl rfl (Nat.le_of_ble_eq_true rfl) dX9_init_32 (w1 := [(b, .inr (9, [.int 0, .ref q1, .int 0, .int 0, .int 0, .int 0, .int 0, .int 0, .int 0, .int 0, .int (-1), .int 0, .ref q2, .int 0, .int 0, .ref q3, .null, .null, .null, .null, .null, .null, .null, .null, .null, .null, .null, .null, .null, .null, .int 0, .int 0, .int 0, .int 0, .int 0, .int 0, .null, .null, .null, .null])), (q1, .inl (cI, 900, .inl (fun _ => 0))), (q3, .inl (cI, 200, .inl (fun _ => 0)))]) rfl (fun H locs hP hD hS => ?_)
  refine lv_aload_n hx hb dX9_init_35 rfl (lv_at hl 0 rfl) ?_
  refine lv_sipush (v := 200) hx hb dX9_init_36 (by decide) ?_
  refine r_newa (atype := .int) (ty := .int) F rfl k_194 hK hP hD hS hA 0 rfl 200 (200, .inl (fun _ => 0)) (bw_cI 200) (by decide) (by decide) (bw_by (k := 4) rfl (by omega)) (Nat.le_of_ble_eq_true rfl) (Nat.le_of_ble_eq_true rfl) dX9_init_39 (w1 := fun q4 => [(b, .inr (9, [.int 0, .ref q1, .int 0, .int 0, .int 0, .int 0, .int 0, .int 0, .int 0, .int 0, .int (-1), .int 0, .ref q2, .int 0, .int 0, .ref q3, .null, .null, .null, .null, .null, .null, .null, .null, .null, .null, .null, .null, .null, .null, .int 0, .int 0, .int 0, .int 0, .int 0, .int 0, .null, .null, .null, .null])), (q1, .inl (cI, 900, .inl (fun _ => 0))), (q3, .inl (cI, 200, .inl (fun _ => 0))), (q4, .inl (cI, 200, .inl (fun _ => 0)))]) (fun _ => rfl) (fun q4 H hP hD hS => ?_)
  refine r_putF F hK hP hD hS 0 16 rfl rfl in_X9 tyX9 tyX9_ok nmX9 (by decide) k_1179 rfl hin rfl rfl rfl (Nat.le_of_ble_eq_true rfl) dX9_init_41 (w1 := [(b, .inr (9, [.int 0, .ref q1, .int 0, .int 0, .int 0, .int 0, .int 0, .int 0, .int 0, .int 0, .int (-1), .int 0, .ref q2, .int 0, .int 0, .ref q3, .ref q4, .null, .null, .null, .null, .null, .null, .null, .null, .null, .null, .null, .null, .null, .int 0, .int 0, .int 0, .int 0, .int 0, .int 0, .null, .null, .null, .null])), (q1, .inl (cI, 900, .inl (fun _ => 0))), (q3, .inl (cI, 200, .inl (fun _ => 0))), (q4, .inl (cI, 200, .inl (fun _ => 0)))]) rfl (fun H locs hP hD hS => ?_)
  have hP := bw_subP (isC := [0, 1, 2]) (wc := [(b, .inr (9, [.int 0, .ref q1, .int 0, .int 0, .int 0, .int 0, .int 0, .int 0, .int 0, .int 0, .int (-1), .int 0, .ref q2, .int 0, .int 0, .ref q3, .ref q4, .null, .null, .null, .null, .null, .null, .null, .null, .null, .null, .null, .null, .null, .int 0, .int 0, .int 0, .int 0, .int 0, .int 0, .null, .null, .null, .null])), (q1, .inl (cI, 900, .inl (fun _ => 0))), (q3, .inl (cI, 200, .inl (fun _ => 0)))]) hP rfl
  have hD := hD.sub (ws' := [(b, .inr (9, [.int 0, .ref q1, .int 0, .int 0, .int 0, .int 0, .int 0, .int 0, .int 0, .int 0, .int (-1), .int 0, .ref q2, .int 0, .int 0, .ref q3, .ref q4, .null, .null, .null, .null, .null, .null, .null, .null, .null, .null, .null, .null, .null, .int 0, .int 0, .int 0, .int 0, .int 0, .int 0, .null, .null, .null, .null])), (q1, .inl (cI, 900, .inl (fun _ => 0))), (q3, .inl (cI, 200, .inl (fun _ => 0)))]) [0, 1, 2] (by decide) rfl
  refine lv_aload_n hx hb dX9_init_44 rfl (lv_at hl 0 rfl) ?_
  refine lv_sipush (v := 200) hx hb dX9_init_45 (by decide) ?_
  refine r_newa (atype := .int) (ty := .int) F rfl k_194 hK hP hD hS hA 0 rfl 200 (200, .inl (fun _ => 0)) (bw_cI 200) (by decide) (by decide) (bw_by (k := 4) rfl (by omega)) (Nat.le_of_ble_eq_true rfl) (Nat.le_of_ble_eq_true rfl) dX9_init_48 (w1 := fun q5 => [(b, .inr (9, [.int 0, .ref q1, .int 0, .int 0, .int 0, .int 0, .int 0, .int 0, .int 0, .int 0, .int (-1), .int 0, .ref q2, .int 0, .int 0, .ref q3, .ref q4, .null, .null, .null, .null, .null, .null, .null, .null, .null, .null, .null, .null, .null, .int 0, .int 0, .int 0, .int 0, .int 0, .int 0, .null, .null, .null, .null])), (q1, .inl (cI, 900, .inl (fun _ => 0))), (q3, .inl (cI, 200, .inl (fun _ => 0))), (q5, .inl (cI, 200, .inl (fun _ => 0)))]) (fun _ => rfl) (fun q5 H hP hD hS => ?_)
  refine r_putF F hK hP hD hS 0 17 rfl rfl in_X9 tyX9 tyX9_ok nmX9 (by decide) k_1180 rfl hin rfl rfl rfl (Nat.le_of_ble_eq_true rfl) dX9_init_50 (w1 := [(b, .inr (9, [.int 0, .ref q1, .int 0, .int 0, .int 0, .int 0, .int 0, .int 0, .int 0, .int 0, .int (-1), .int 0, .ref q2, .int 0, .int 0, .ref q3, .ref q4, .ref q5, .null, .null, .null, .null, .null, .null, .null, .null, .null, .null, .null, .null, .int 0, .int 0, .int 0, .int 0, .int 0, .int 0, .null, .null, .null, .null])), (q1, .inl (cI, 900, .inl (fun _ => 0))), (q3, .inl (cI, 200, .inl (fun _ => 0))), (q5, .inl (cI, 200, .inl (fun _ => 0)))]) rfl (fun H locs hP hD hS => ?_)
  have hP := bw_subP (isC := [0, 1, 2]) (wc := [(b, .inr (9, [.int 0, .ref q1, .int 0, .int 0, .int 0, .int 0, .int 0, .int 0, .int 0, .int 0, .int (-1), .int 0, .ref q2, .int 0, .int 0, .ref q3, .ref q4, .ref q5, .null, .null, .null, .null, .null, .null, .null, .null, .null, .null, .null, .null, .int 0, .int 0, .int 0, .int 0, .int 0, .int 0, .null, .null, .null, .null])), (q1, .inl (cI, 900, .inl (fun _ => 0))), (q3, .inl (cI, 200, .inl (fun _ => 0)))]) hP rfl
  have hD := hD.sub (ws' := [(b, .inr (9, [.int 0, .ref q1, .int 0, .int 0, .int 0, .int 0, .int 0, .int 0, .int 0, .int 0, .int (-1), .int 0, .ref q2, .int 0, .int 0, .ref q3, .ref q4, .ref q5, .null, .null, .null, .null, .null, .null, .null, .null, .null, .null, .null, .null, .int 0, .int 0, .int 0, .int 0, .int 0, .int 0, .null, .null, .null, .null])), (q1, .inl (cI, 900, .inl (fun _ => 0))), (q3, .inl (cI, 200, .inl (fun _ => 0)))]) [0, 1, 2] (by decide) rfl
  refine lv_aload_n hx hb dX9_init_53 rfl (lv_at hl 0 rfl) ?_
  refine lv_sipush (v := 200) hx hb dX9_init_54 (by decide) ?_
  refine r_newa (atype := .int) (ty := .int) F rfl k_194 hK hP hD hS hA 0 rfl 200 (200, .inl (fun _ => 0)) (bw_cI 200) (by decide) (by decide) (bw_by (k := 4) rfl (by omega)) (Nat.le_of_ble_eq_true rfl) (Nat.le_of_ble_eq_true rfl) dX9_init_57 (w1 := fun q6 => [(b, .inr (9, [.int 0, .ref q1, .int 0, .int 0, .int 0, .int 0, .int 0, .int 0, .int 0, .int 0, .int (-1), .int 0, .ref q2, .int 0, .int 0, .ref q3, .ref q4, .ref q5, .null, .null, .null, .null, .null, .null, .null, .null, .null, .null, .null, .null, .int 0, .int 0, .int 0, .int 0, .int 0, .int 0, .null, .null, .null, .null])), (q1, .inl (cI, 900, .inl (fun _ => 0))), (q3, .inl (cI, 200, .inl (fun _ => 0))), (q6, .inl (cI, 200, .inl (fun _ => 0)))]) (fun _ => rfl) (fun q6 H hP hD hS => ?_)
  refine r_putF F hK hP hD hS 0 18 rfl rfl in_X9 tyX9 tyX9_ok nmX9 (by decide) k_1181 rfl hin rfl rfl rfl (Nat.le_of_ble_eq_true rfl) dX9_init_59 (w1 := [(b, .inr (9, [.int 0, .ref q1, .int 0, .int 0, .int 0, .int 0, .int 0, .int 0, .int 0, .int 0, .int (-1), .int 0, .ref q2, .int 0, .int 0, .ref q3, .ref q4, .ref q5, .ref q6, .null, .null, .null, .null, .null, .null, .null, .null, .null, .null, .null, .int 0, .int 0, .int 0, .int 0, .int 0, .int 0, .null, .null, .null, .null])), (q1, .inl (cI, 900, .inl (fun _ => 0))), (q3, .inl (cI, 200, .inl (fun _ => 0))), (q6, .inl (cI, 200, .inl (fun _ => 0)))]) rfl (fun H locs hP hD hS => ?_)
  have hP := bw_subP (isC := [0, 1, 2]) (wc := [(b, .inr (9, [.int 0, .ref q1, .int 0, .int 0, .int 0, .int 0, .int 0, .int 0, .int 0, .int 0, .int (-1), .int 0, .ref q2, .int 0, .int 0, .ref q3, .ref q4, .ref q5, .ref q6, .null, .null, .null, .null, .null, .null, .null, .null, .null, .null, .null, .int 0, .int 0, .int 0, .int 0, .int 0, .int 0, .null, .null, .null, .null])), (q1, .inl (cI, 900, .inl (fun _ => 0))), (q3, .inl (cI, 200, .inl (fun _ => 0)))]) hP rfl
  have hD := hD.sub (ws' := [(b, .inr (9, [.int 0, .ref q1, .int 0, .int 0, .int 0, .int 0, .int 0, .int 0, .int 0, .int 0, .int (-1), .int 0, .ref q2, .int 0, .int 0, .ref q3, .ref q4, .ref q5, .ref q6, .null, .null, .null, .null, .null, .null, .null, .null, .null, .null, .null, .int 0, .int 0, .int 0, .int 0, .int 0, .int 0, .null, .null, .null, .null])), (q1, .inl (cI, 900, .inl (fun _ => 0))), (q3, .inl (cI, 200, .inl (fun _ => 0)))]) [0, 1, 2] (by decide) rfl
  refine lv_aload_n hx hb dX9_init_62 rfl (lv_at hl 0 rfl) ?_
  refine lv_sipush (v := 800) hx hb dX9_init_63 (by decide) ?_
  refine r_newa (atype := .int) (ty := .int) F rfl k_194 hK hP hD hS hA 0 rfl 800 (800, .inl (fun _ => 0)) (bw_cI 800) (by decide) (by decide) (bw_by (k := 4) rfl (by omega)) (Nat.le_of_ble_eq_true rfl) (Nat.le_of_ble_eq_true rfl) dX9_init_66 (w1 := fun q7 => [(b, .inr (9, [.int 0, .ref q1, .int 0, .int 0, .int 0, .int 0, .int 0, .int 0, .int 0, .int 0, .int (-1), .int 0, .ref q2, .int 0, .int 0, .ref q3, .ref q4, .ref q5, .ref q6, .null, .null, .null, .null, .null, .null, .null, .null, .null, .null, .null, .int 0, .int 0, .int 0, .int 0, .int 0, .int 0, .null, .null, .null, .null])), (q1, .inl (cI, 900, .inl (fun _ => 0))), (q3, .inl (cI, 200, .inl (fun _ => 0))), (q7, .inl (cI, 800, .inl (fun _ => 0)))]) (fun _ => rfl) (fun q7 H hP hD hS => ?_)
  refine r_putF F hK hP hD hS 0 19 rfl rfl in_X9 tyX9 tyX9_ok nmX9 (by decide) k_1182 rfl hin rfl rfl rfl (Nat.le_of_ble_eq_true rfl) dX9_init_68 (w1 := [(b, .inr (9, [.int 0, .ref q1, .int 0, .int 0, .int 0, .int 0, .int 0, .int 0, .int 0, .int 0, .int (-1), .int 0, .ref q2, .int 0, .int 0, .ref q3, .ref q4, .ref q5, .ref q6, .ref q7, .null, .null, .null, .null, .null, .null, .null, .null, .null, .null, .int 0, .int 0, .int 0, .int 0, .int 0, .int 0, .null, .null, .null, .null])), (q1, .inl (cI, 900, .inl (fun _ => 0))), (q3, .inl (cI, 200, .inl (fun _ => 0))), (q7, .inl (cI, 800, .inl (fun _ => 0)))]) rfl (fun H locs hP hD hS => ?_)
  have hP := bw_subP (isC := [0, 1, 2]) (wc := [(b, .inr (9, [.int 0, .ref q1, .int 0, .int 0, .int 0, .int 0, .int 0, .int 0, .int 0, .int 0, .int (-1), .int 0, .ref q2, .int 0, .int 0, .ref q3, .ref q4, .ref q5, .ref q6, .ref q7, .null, .null, .null, .null, .null, .null, .null, .null, .null, .null, .int 0, .int 0, .int 0, .int 0, .int 0, .int 0, .null, .null, .null, .null])), (q1, .inl (cI, 900, .inl (fun _ => 0))), (q3, .inl (cI, 200, .inl (fun _ => 0)))]) hP rfl
  have hD := hD.sub (ws' := [(b, .inr (9, [.int 0, .ref q1, .int 0, .int 0, .int 0, .int 0, .int 0, .int 0, .int 0, .int 0, .int (-1), .int 0, .ref q2, .int 0, .int 0, .ref q3, .ref q4, .ref q5, .ref q6, .ref q7, .null, .null, .null, .null, .null, .null, .null, .null, .null, .null, .int 0, .int 0, .int 0, .int 0, .int 0, .int 0, .null, .null, .null, .null])), (q1, .inl (cI, 900, .inl (fun _ => 0))), (q3, .inl (cI, 200, .inl (fun _ => 0)))]) [0, 1, 2] (by decide) rfl
  refine lv_aload_n hx hb dX9_init_71 rfl (lv_at hl 0 rfl) ?_
  refine lv_bipush (v := 80) hx hb dX9_init_72 (by decide) ?_
  refine r_newa (atype := .int) (ty := .int) F rfl k_194 hK hP hD hS hA 0 rfl 80 (80, .inl (fun _ => 0)) (bw_cI 80) (by decide) (by decide) (bw_by (k := 4) rfl (by omega)) (Nat.le_of_ble_eq_true rfl) (Nat.le_of_ble_eq_true rfl) dX9_init_74 (w1 := fun q8 => [(b, .inr (9, [.int 0, .ref q1, .int 0, .int 0, .int 0, .int 0, .int 0, .int 0, .int 0, .int 0, .int (-1), .int 0, .ref q2, .int 0, .int 0, .ref q3, .ref q4, .ref q5, .ref q6, .ref q7, .null, .null, .null, .null, .null, .null, .null, .null, .null, .null, .int 0, .int 0, .int 0, .int 0, .int 0, .int 0, .null, .null, .null, .null])), (q1, .inl (cI, 900, .inl (fun _ => 0))), (q3, .inl (cI, 200, .inl (fun _ => 0))), (q8, .inl (cI, 80, .inl (fun _ => 0)))]) (fun _ => rfl) (fun q8 H hP hD hS => ?_)
  refine r_putF F hK hP hD hS 0 20 rfl rfl in_X9 tyX9 tyX9_ok nmX9 (by decide) k_1183 rfl hin rfl rfl rfl (Nat.le_of_ble_eq_true rfl) dX9_init_76 (w1 := [(b, .inr (9, [.int 0, .ref q1, .int 0, .int 0, .int 0, .int 0, .int 0, .int 0, .int 0, .int 0, .int (-1), .int 0, .ref q2, .int 0, .int 0, .ref q3, .ref q4, .ref q5, .ref q6, .ref q7, .ref q8, .null, .null, .null, .null, .null, .null, .null, .null, .null, .int 0, .int 0, .int 0, .int 0, .int 0, .int 0, .null, .null, .null, .null])), (q1, .inl (cI, 900, .inl (fun _ => 0))), (q3, .inl (cI, 200, .inl (fun _ => 0))), (q8, .inl (cI, 80, .inl (fun _ => 0)))]) rfl (fun H locs hP hD hS => ?_)
  have hP := bw_subP (isC := [0, 1, 2]) (wc := [(b, .inr (9, [.int 0, .ref q1, .int 0, .int 0, .int 0, .int 0, .int 0, .int 0, .int 0, .int 0, .int (-1), .int 0, .ref q2, .int 0, .int 0, .ref q3, .ref q4, .ref q5, .ref q6, .ref q7, .ref q8, .null, .null, .null, .null, .null, .null, .null, .null, .null, .int 0, .int 0, .int 0, .int 0, .int 0, .int 0, .null, .null, .null, .null])), (q1, .inl (cI, 900, .inl (fun _ => 0))), (q3, .inl (cI, 200, .inl (fun _ => 0)))]) hP rfl
  have hD := hD.sub (ws' := [(b, .inr (9, [.int 0, .ref q1, .int 0, .int 0, .int 0, .int 0, .int 0, .int 0, .int 0, .int 0, .int (-1), .int 0, .ref q2, .int 0, .int 0, .ref q3, .ref q4, .ref q5, .ref q6, .ref q7, .ref q8, .null, .null, .null, .null, .null, .null, .null, .null, .null, .int 0, .int 0, .int 0, .int 0, .int 0, .int 0, .null, .null, .null, .null])), (q1, .inl (cI, 900, .inl (fun _ => 0))), (q3, .inl (cI, 200, .inl (fun _ => 0)))]) [0, 1, 2] (by decide) rfl
  refine lv_aload_n hx hb dX9_init_79 rfl (lv_at hl 0 rfl) ?_
  refine lv_bipush (v := 10) hx hb dX9_init_80 (by decide) ?_
  refine r_newa (atype := .int) (ty := .int) F rfl k_194 hK hP hD hS hA 0 rfl 10 (10, .inl (fun _ => 0)) (bw_cI 10) (by decide) (by decide) (bw_by (k := 4) rfl (by omega)) (Nat.le_of_ble_eq_true rfl) (Nat.le_of_ble_eq_true rfl) dX9_init_82 (w1 := fun q9 => [(b, .inr (9, [.int 0, .ref q1, .int 0, .int 0, .int 0, .int 0, .int 0, .int 0, .int 0, .int 0, .int (-1), .int 0, .ref q2, .int 0, .int 0, .ref q3, .ref q4, .ref q5, .ref q6, .ref q7, .ref q8, .null, .null, .null, .null, .null, .null, .null, .null, .null, .int 0, .int 0, .int 0, .int 0, .int 0, .int 0, .null, .null, .null, .null])), (q1, .inl (cI, 900, .inl (fun _ => 0))), (q3, .inl (cI, 200, .inl (fun _ => 0))), (q9, .inl (cI, 10, .inl (fun _ => 0)))]) (fun _ => rfl) (fun q9 H hP hD hS => ?_)
  refine r_putF F hK hP hD hS 0 21 rfl rfl in_X9 tyX9 tyX9_ok nmX9 (by decide) k_1184 rfl hin rfl rfl rfl (Nat.le_of_ble_eq_true rfl) dX9_init_84 (w1 := [(b, .inr (9, [.int 0, .ref q1, .int 0, .int 0, .int 0, .int 0, .int 0, .int 0, .int 0, .int 0, .int (-1), .int 0, .ref q2, .int 0, .int 0, .ref q3, .ref q4, .ref q5, .ref q6, .ref q7, .ref q8, .ref q9, .null, .null, .null, .null, .null, .null, .null, .null, .int 0, .int 0, .int 0, .int 0, .int 0, .int 0, .null, .null, .null, .null])), (q1, .inl (cI, 900, .inl (fun _ => 0))), (q3, .inl (cI, 200, .inl (fun _ => 0))), (q9, .inl (cI, 10, .inl (fun _ => 0)))]) rfl (fun H locs hP hD hS => ?_)
  have hP := bw_subP (isC := [0, 1, 2]) (wc := [(b, .inr (9, [.int 0, .ref q1, .int 0, .int 0, .int 0, .int 0, .int 0, .int 0, .int 0, .int 0, .int (-1), .int 0, .ref q2, .int 0, .int 0, .ref q3, .ref q4, .ref q5, .ref q6, .ref q7, .ref q8, .ref q9, .null, .null, .null, .null, .null, .null, .null, .null, .int 0, .int 0, .int 0, .int 0, .int 0, .int 0, .null, .null, .null, .null])), (q1, .inl (cI, 900, .inl (fun _ => 0))), (q3, .inl (cI, 200, .inl (fun _ => 0)))]) hP rfl
  have hD := hD.sub (ws' := [(b, .inr (9, [.int 0, .ref q1, .int 0, .int 0, .int 0, .int 0, .int 0, .int 0, .int 0, .int 0, .int (-1), .int 0, .ref q2, .int 0, .int 0, .ref q3, .ref q4, .ref q5, .ref q6, .ref q7, .ref q8, .ref q9, .null, .null, .null, .null, .null, .null, .null, .null, .int 0, .int 0, .int 0, .int 0, .int 0, .int 0, .null, .null, .null, .null])), (q1, .inl (cI, 900, .inl (fun _ => 0))), (q3, .inl (cI, 200, .inl (fun _ => 0)))]) [0, 1, 2] (by decide) rfl
  refine lv_aload_n hx hb dX9_init_87 rfl (lv_at hl 0 rfl) ?_
  refine lv_bipush (v := 80) hx hb dX9_init_88 (by decide) ?_
  refine r_newa (atype := .int) (ty := .int) F rfl k_194 hK hP hD hS hA 0 rfl 80 (80, .inl (fun _ => 0)) (bw_cI 80) (by decide) (by decide) (bw_by (k := 4) rfl (by omega)) (Nat.le_of_ble_eq_true rfl) (Nat.le_of_ble_eq_true rfl) dX9_init_90 (w1 := fun q10 => [(b, .inr (9, [.int 0, .ref q1, .int 0, .int 0, .int 0, .int 0, .int 0, .int 0, .int 0, .int 0, .int (-1), .int 0, .ref q2, .int 0, .int 0, .ref q3, .ref q4, .ref q5, .ref q6, .ref q7, .ref q8, .ref q9, .null, .null, .null, .null, .null, .null, .null, .null, .int 0, .int 0, .int 0, .int 0, .int 0, .int 0, .null, .null, .null, .null])), (q1, .inl (cI, 900, .inl (fun _ => 0))), (q3, .inl (cI, 200, .inl (fun _ => 0))), (q10, .inl (cI, 80, .inl (fun _ => 0)))]) (fun _ => rfl) (fun q10 H hP hD hS => ?_)
  refine r_putF F hK hP hD hS 0 22 rfl rfl in_X9 tyX9 tyX9_ok nmX9 (by decide) k_1185 rfl hin rfl rfl rfl (Nat.le_of_ble_eq_true rfl) dX9_init_92 (w1 := [(b, .inr (9, [.int 0, .ref q1, .int 0, .int 0, .int 0, .int 0, .int 0, .int 0, .int 0, .int 0, .int (-1), .int 0, .ref q2, .int 0, .int 0, .ref q3, .ref q4, .ref q5, .ref q6, .ref q7, .ref q8, .ref q9, .ref q10, .null, .null, .null, .null, .null, .null, .null, .int 0, .int 0, .int 0, .int 0, .int 0, .int 0, .null, .null, .null, .null])), (q1, .inl (cI, 900, .inl (fun _ => 0))), (q3, .inl (cI, 200, .inl (fun _ => 0))), (q10, .inl (cI, 80, .inl (fun _ => 0)))]) rfl (fun H locs hP hD hS => ?_)
  have hP := bw_subP (isC := [0, 1, 2]) (wc := [(b, .inr (9, [.int 0, .ref q1, .int 0, .int 0, .int 0, .int 0, .int 0, .int 0, .int 0, .int 0, .int (-1), .int 0, .ref q2, .int 0, .int 0, .ref q3, .ref q4, .ref q5, .ref q6, .ref q7, .ref q8, .ref q9, .ref q10, .null, .null, .null, .null, .null, .null, .null, .int 0, .int 0, .int 0, .int 0, .int 0, .int 0, .null, .null, .null, .null])), (q1, .inl (cI, 900, .inl (fun _ => 0))), (q3, .inl (cI, 200, .inl (fun _ => 0)))]) hP rfl
  have hD := hD.sub (ws' := [(b, .inr (9, [.int 0, .ref q1, .int 0, .int 0, .int 0, .int 0, .int 0, .int 0, .int 0, .int 0, .int (-1), .int 0, .ref q2, .int 0, .int 0, .ref q3, .ref q4, .ref q5, .ref q6, .ref q7, .ref q8, .ref q9, .ref q10, .null, .null, .null, .null, .null, .null, .null, .int 0, .int 0, .int 0, .int 0, .int 0, .int 0, .null, .null, .null, .null])), (q1, .inl (cI, 900, .inl (fun _ => 0))), (q3, .inl (cI, 200, .inl (fun _ => 0)))]) [0, 1, 2] (by decide) rfl
  refine lv_aload_n hx hb dX9_init_95 rfl (lv_at hl 0 rfl) ?_
  refine lv_bipush (v := 10) hx hb dX9_init_96 (by decide) ?_
  refine r_newa (atype := .int) (ty := .int) F rfl k_194 hK hP hD hS hA 0 rfl 10 (10, .inl (fun _ => 0)) (bw_cI 10) (by decide) (by decide) (bw_by (k := 4) rfl (by omega)) (Nat.le_of_ble_eq_true rfl) (Nat.le_of_ble_eq_true rfl) dX9_init_98 (w1 := fun q11 => [(b, .inr (9, [.int 0, .ref q1, .int 0, .int 0, .int 0, .int 0, .int 0, .int 0, .int 0, .int 0, .int (-1), .int 0, .ref q2, .int 0, .int 0, .ref q3, .ref q4, .ref q5, .ref q6, .ref q7, .ref q8, .ref q9, .ref q10, .null, .null, .null, .null, .null, .null, .null, .int 0, .int 0, .int 0, .int 0, .int 0, .int 0, .null, .null, .null, .null])), (q1, .inl (cI, 900, .inl (fun _ => 0))), (q3, .inl (cI, 200, .inl (fun _ => 0))), (q11, .inl (cI, 10, .inl (fun _ => 0)))]) (fun _ => rfl) (fun q11 H hP hD hS => ?_)
  refine r_putF F hK hP hD hS 0 23 rfl rfl in_X9 tyX9 tyX9_ok nmX9 (by decide) k_1186 rfl hin rfl rfl rfl (Nat.le_of_ble_eq_true rfl) dX9_init_100 (w1 := [(b, .inr (9, [.int 0, .ref q1, .int 0, .int 0, .int 0, .int 0, .int 0, .int 0, .int 0, .int 0, .int (-1), .int 0, .ref q2, .int 0, .int 0, .ref q3, .ref q4, .ref q5, .ref q6, .ref q7, .ref q8, .ref q9, .ref q10, .ref q11, .null, .null, .null, .null, .null, .null, .int 0, .int 0, .int 0, .int 0, .int 0, .int 0, .null, .null, .null, .null])), (q1, .inl (cI, 900, .inl (fun _ => 0))), (q3, .inl (cI, 200, .inl (fun _ => 0))), (q11, .inl (cI, 10, .inl (fun _ => 0)))]) rfl (fun H locs hP hD hS => ?_)
  have hP := bw_subP (isC := [0, 1, 2]) (wc := [(b, .inr (9, [.int 0, .ref q1, .int 0, .int 0, .int 0, .int 0, .int 0, .int 0, .int 0, .int 0, .int (-1), .int 0, .ref q2, .int 0, .int 0, .ref q3, .ref q4, .ref q5, .ref q6, .ref q7, .ref q8, .ref q9, .ref q10, .ref q11, .null, .null, .null, .null, .null, .null, .int 0, .int 0, .int 0, .int 0, .int 0, .int 0, .null, .null, .null, .null])), (q1, .inl (cI, 900, .inl (fun _ => 0))), (q3, .inl (cI, 200, .inl (fun _ => 0)))]) hP rfl
  have hD := hD.sub (ws' := [(b, .inr (9, [.int 0, .ref q1, .int 0, .int 0, .int 0, .int 0, .int 0, .int 0, .int 0, .int 0, .int (-1), .int 0, .ref q2, .int 0, .int 0, .ref q3, .ref q4, .ref q5, .ref q6, .ref q7, .ref q8, .ref q9, .ref q10, .ref q11, .null, .null, .null, .null, .null, .null, .int 0, .int 0, .int 0, .int 0, .int 0, .int 0, .null, .null, .null, .null])), (q1, .inl (cI, 900, .inl (fun _ => 0))), (q3, .inl (cI, 200, .inl (fun _ => 0)))]) [0, 1, 2] (by decide) rfl
  refine lv_aload_n hx hb dX9_init_103 rfl (lv_at hl 0 rfl) ?_
  refine lv_bipush (v := 30) hx hb dX9_init_104 (by decide) ?_
  refine r_newa (atype := .int) (ty := .int) F rfl k_194 hK hP hD hS hA 0 rfl 30 (30, .inl (fun _ => 0)) (bw_cI 30) (by decide) (by decide) (bw_by (k := 4) rfl (by omega)) (Nat.le_of_ble_eq_true rfl) (Nat.le_of_ble_eq_true rfl) dX9_init_106 (w1 := fun q12 => [(b, .inr (9, [.int 0, .ref q1, .int 0, .int 0, .int 0, .int 0, .int 0, .int 0, .int 0, .int 0, .int (-1), .int 0, .ref q2, .int 0, .int 0, .ref q3, .ref q4, .ref q5, .ref q6, .ref q7, .ref q8, .ref q9, .ref q10, .ref q11, .null, .null, .null, .null, .null, .null, .int 0, .int 0, .int 0, .int 0, .int 0, .int 0, .null, .null, .null, .null])), (q1, .inl (cI, 900, .inl (fun _ => 0))), (q3, .inl (cI, 200, .inl (fun _ => 0))), (q12, .inl (cI, 30, .inl (fun _ => 0)))]) (fun _ => rfl) (fun q12 H hP hD hS => ?_)
  refine r_putF F hK hP hD hS 0 24 rfl rfl in_X9 tyX9 tyX9_ok nmX9 (by decide) k_1187 rfl hin rfl rfl rfl (Nat.le_of_ble_eq_true rfl) dX9_init_108 (w1 := [(b, .inr (9, [.int 0, .ref q1, .int 0, .int 0, .int 0, .int 0, .int 0, .int 0, .int 0, .int 0, .int (-1), .int 0, .ref q2, .int 0, .int 0, .ref q3, .ref q4, .ref q5, .ref q6, .ref q7, .ref q8, .ref q9, .ref q10, .ref q11, .ref q12, .null, .null, .null, .null, .null, .int 0, .int 0, .int 0, .int 0, .int 0, .int 0, .null, .null, .null, .null])), (q1, .inl (cI, 900, .inl (fun _ => 0))), (q3, .inl (cI, 200, .inl (fun _ => 0))), (q12, .inl (cI, 30, .inl (fun _ => 0)))]) rfl (fun H locs hP hD hS => ?_)
  have hP := bw_subP (isC := [0, 1, 2]) (wc := [(b, .inr (9, [.int 0, .ref q1, .int 0, .int 0, .int 0, .int 0, .int 0, .int 0, .int 0, .int 0, .int (-1), .int 0, .ref q2, .int 0, .int 0, .ref q3, .ref q4, .ref q5, .ref q6, .ref q7, .ref q8, .ref q9, .ref q10, .ref q11, .ref q12, .null, .null, .null, .null, .null, .int 0, .int 0, .int 0, .int 0, .int 0, .int 0, .null, .null, .null, .null])), (q1, .inl (cI, 900, .inl (fun _ => 0))), (q3, .inl (cI, 200, .inl (fun _ => 0)))]) hP rfl
  have hD := hD.sub (ws' := [(b, .inr (9, [.int 0, .ref q1, .int 0, .int 0, .int 0, .int 0, .int 0, .int 0, .int 0, .int 0, .int (-1), .int 0, .ref q2, .int 0, .int 0, .ref q3, .ref q4, .ref q5, .ref q6, .ref q7, .ref q8, .ref q9, .ref q10, .ref q11, .ref q12, .null, .null, .null, .null, .null, .int 0, .int 0, .int 0, .int 0, .int 0, .int 0, .null, .null, .null, .null])), (q1, .inl (cI, 900, .inl (fun _ => 0))), (q3, .inl (cI, 200, .inl (fun _ => 0)))]) [0, 1, 2] (by decide) rfl
  refine lv_aload_n hx hb dX9_init_111 rfl (lv_at hl 0 rfl) ?_
  refine lv_bipush (v := 30) hx hb dX9_init_112 (by decide) ?_
  refine r_newa (atype := .int) (ty := .int) F rfl k_194 hK hP hD hS hA 0 rfl 30 (30, .inl (fun _ => 0)) (bw_cI 30) (by decide) (by decide) (bw_by (k := 4) rfl (by omega)) (Nat.le_of_ble_eq_true rfl) (Nat.le_of_ble_eq_true rfl) dX9_init_114 (w1 := fun q13 => [(b, .inr (9, [.int 0, .ref q1, .int 0, .int 0, .int 0, .int 0, .int 0, .int 0, .int 0, .int 0, .int (-1), .int 0, .ref q2, .int 0, .int 0, .ref q3, .ref q4, .ref q5, .ref q6, .ref q7, .ref q8, .ref q9, .ref q10, .ref q11, .ref q12, .null, .null, .null, .null, .null, .int 0, .int 0, .int 0, .int 0, .int 0, .int 0, .null, .null, .null, .null])), (q1, .inl (cI, 900, .inl (fun _ => 0))), (q3, .inl (cI, 200, .inl (fun _ => 0))), (q13, .inl (cI, 30, .inl (fun _ => 0)))]) (fun _ => rfl) (fun q13 H hP hD hS => ?_)
  refine r_putF F hK hP hD hS 0 25 rfl rfl in_X9 tyX9 tyX9_ok nmX9 (by decide) k_1188 rfl hin rfl rfl rfl (Nat.le_of_ble_eq_true rfl) dX9_init_116 (w1 := [(b, .inr (9, [.int 0, .ref q1, .int 0, .int 0, .int 0, .int 0, .int 0, .int 0, .int 0, .int 0, .int (-1), .int 0, .ref q2, .int 0, .int 0, .ref q3, .ref q4, .ref q5, .ref q6, .ref q7, .ref q8, .ref q9, .ref q10, .ref q11, .ref q12, .ref q13, .null, .null, .null, .null, .int 0, .int 0, .int 0, .int 0, .int 0, .int 0, .null, .null, .null, .null])), (q1, .inl (cI, 900, .inl (fun _ => 0))), (q3, .inl (cI, 200, .inl (fun _ => 0))), (q13, .inl (cI, 30, .inl (fun _ => 0)))]) rfl (fun H locs hP hD hS => ?_)
  have hP := bw_subP (isC := [0, 1, 2]) (wc := [(b, .inr (9, [.int 0, .ref q1, .int 0, .int 0, .int 0, .int 0, .int 0, .int 0, .int 0, .int 0, .int (-1), .int 0, .ref q2, .int 0, .int 0, .ref q3, .ref q4, .ref q5, .ref q6, .ref q7, .ref q8, .ref q9, .ref q10, .ref q11, .ref q12, .ref q13, .null, .null, .null, .null, .int 0, .int 0, .int 0, .int 0, .int 0, .int 0, .null, .null, .null, .null])), (q1, .inl (cI, 900, .inl (fun _ => 0))), (q3, .inl (cI, 200, .inl (fun _ => 0)))]) hP rfl
  have hD := hD.sub (ws' := [(b, .inr (9, [.int 0, .ref q1, .int 0, .int 0, .int 0, .int 0, .int 0, .int 0, .int 0, .int 0, .int (-1), .int 0, .ref q2, .int 0, .int 0, .ref q3, .ref q4, .ref q5, .ref q6, .ref q7, .ref q8, .ref q9, .ref q10, .ref q11, .ref q12, .ref q13, .null, .null, .null, .null, .int 0, .int 0, .int 0, .int 0, .int 0, .int 0, .null, .null, .null, .null])), (q1, .inl (cI, 900, .inl (fun _ => 0))), (q3, .inl (cI, 200, .inl (fun _ => 0)))]) [0, 1, 2] (by decide) rfl
  refine lv_aload_n hx hb dX9_init_119 rfl (lv_at hl 0 rfl) ?_
  refine lv_sipush (v := 159) hx hb dX9_init_120 (by decide) ?_
  refine r_newa (atype := .int) (ty := .int) F rfl k_194 hK hP hD hS hA 0 rfl 159 (159, .inl (fun _ => 0)) (bw_cI 159) (by decide) (by decide) (bw_by (k := 4) rfl (by omega)) (Nat.le_of_ble_eq_true rfl) (Nat.le_of_ble_eq_true rfl) dX9_init_123 (w1 := fun q14 => [(b, .inr (9, [.int 0, .ref q1, .int 0, .int 0, .int 0, .int 0, .int 0, .int 0, .int 0, .int 0, .int (-1), .int 0, .ref q2, .int 0, .int 0, .ref q3, .ref q4, .ref q5, .ref q6, .ref q7, .ref q8, .ref q9, .ref q10, .ref q11, .ref q12, .ref q13, .null, .null, .null, .null, .int 0, .int 0, .int 0, .int 0, .int 0, .int 0, .null, .null, .null, .null])), (q1, .inl (cI, 900, .inl (fun _ => 0))), (q3, .inl (cI, 200, .inl (fun _ => 0))), (q14, .inl (cI, 159, .inl (fun _ => 0)))]) (fun _ => rfl) (fun q14 H hP hD hS => ?_)
  refine r_putF F hK hP hD hS 0 26 rfl rfl in_X9 tyX9 tyX9_ok nmX9 (by decide) k_1189 rfl hin rfl rfl rfl (Nat.le_of_ble_eq_true rfl) dX9_init_125 (w1 := [(b, .inr (9, [.int 0, .ref q1, .int 0, .int 0, .int 0, .int 0, .int 0, .int 0, .int 0, .int 0, .int (-1), .int 0, .ref q2, .int 0, .int 0, .ref q3, .ref q4, .ref q5, .ref q6, .ref q7, .ref q8, .ref q9, .ref q10, .ref q11, .ref q12, .ref q13, .ref q14, .null, .null, .null, .int 0, .int 0, .int 0, .int 0, .int 0, .int 0, .null, .null, .null, .null])), (q1, .inl (cI, 900, .inl (fun _ => 0))), (q3, .inl (cI, 200, .inl (fun _ => 0))), (q14, .inl (cI, 159, .inl (fun _ => 0)))]) rfl (fun H locs hP hD hS => ?_)
  have hP := bw_subP (isC := [0, 1, 2]) (wc := [(b, .inr (9, [.int 0, .ref q1, .int 0, .int 0, .int 0, .int 0, .int 0, .int 0, .int 0, .int 0, .int (-1), .int 0, .ref q2, .int 0, .int 0, .ref q3, .ref q4, .ref q5, .ref q6, .ref q7, .ref q8, .ref q9, .ref q10, .ref q11, .ref q12, .ref q13, .ref q14, .null, .null, .null, .int 0, .int 0, .int 0, .int 0, .int 0, .int 0, .null, .null, .null, .null])), (q1, .inl (cI, 900, .inl (fun _ => 0))), (q3, .inl (cI, 200, .inl (fun _ => 0)))]) hP rfl
  have hD := hD.sub (ws' := [(b, .inr (9, [.int 0, .ref q1, .int 0, .int 0, .int 0, .int 0, .int 0, .int 0, .int 0, .int 0, .int (-1), .int 0, .ref q2, .int 0, .int 0, .ref q3, .ref q4, .ref q5, .ref q6, .ref q7, .ref q8, .ref q9, .ref q10, .ref q11, .ref q12, .ref q13, .ref q14, .null, .null, .null, .int 0, .int 0, .int 0, .int 0, .int 0, .int 0, .null, .null, .null, .null])), (q1, .inl (cI, 900, .inl (fun _ => 0))), (q3, .inl (cI, 200, .inl (fun _ => 0)))]) [0, 1, 2] (by decide) rfl
  refine lv_aload_n hx hb dX9_init_128 rfl (lv_at hl 0 rfl) ?_
  refine lv_sipush (v := 159) hx hb dX9_init_129 (by decide) ?_
  refine r_newa (atype := .int) (ty := .int) F rfl k_194 hK hP hD hS hA 0 rfl 159 (159, .inl (fun _ => 0)) (bw_cI 159) (by decide) (by decide) (bw_by (k := 4) rfl (by omega)) (Nat.le_of_ble_eq_true rfl) (Nat.le_of_ble_eq_true rfl) dX9_init_132 (w1 := fun q15 => [(b, .inr (9, [.int 0, .ref q1, .int 0, .int 0, .int 0, .int 0, .int 0, .int 0, .int 0, .int 0, .int (-1), .int 0, .ref q2, .int 0, .int 0, .ref q3, .ref q4, .ref q5, .ref q6, .ref q7, .ref q8, .ref q9, .ref q10, .ref q11, .ref q12, .ref q13, .ref q14, .null, .null, .null, .int 0, .int 0, .int 0, .int 0, .int 0, .int 0, .null, .null, .null, .null])), (q1, .inl (cI, 900, .inl (fun _ => 0))), (q3, .inl (cI, 200, .inl (fun _ => 0))), (q15, .inl (cI, 159, .inl (fun _ => 0)))]) (fun _ => rfl) (fun q15 H hP hD hS => ?_)
  refine r_putF F hK hP hD hS 0 27 rfl rfl in_X9 tyX9 tyX9_ok nmX9 (by decide) k_1190 rfl hin rfl rfl rfl (Nat.le_of_ble_eq_true rfl) dX9_init_134 (w1 := [(b, .inr (9, [.int 0, .ref q1, .int 0, .int 0, .int 0, .int 0, .int 0, .int 0, .int 0, .int 0, .int (-1), .int 0, .ref q2, .int 0, .int 0, .ref q3, .ref q4, .ref q5, .ref q6, .ref q7, .ref q8, .ref q9, .ref q10, .ref q11, .ref q12, .ref q13, .ref q14, .ref q15, .null, .null, .int 0, .int 0, .int 0, .int 0, .int 0, .int 0, .null, .null, .null, .null])), (q1, .inl (cI, 900, .inl (fun _ => 0))), (q3, .inl (cI, 200, .inl (fun _ => 0))), (q15, .inl (cI, 159, .inl (fun _ => 0)))]) rfl (fun H locs hP hD hS => ?_)
  have hP := bw_subP (isC := [0, 1, 2]) (wc := [(b, .inr (9, [.int 0, .ref q1, .int 0, .int 0, .int 0, .int 0, .int 0, .int 0, .int 0, .int 0, .int (-1), .int 0, .ref q2, .int 0, .int 0, .ref q3, .ref q4, .ref q5, .ref q6, .ref q7, .ref q8, .ref q9, .ref q10, .ref q11, .ref q12, .ref q13, .ref q14, .ref q15, .null, .null, .int 0, .int 0, .int 0, .int 0, .int 0, .int 0, .null, .null, .null, .null])), (q1, .inl (cI, 900, .inl (fun _ => 0))), (q3, .inl (cI, 200, .inl (fun _ => 0)))]) hP rfl
  have hD := hD.sub (ws' := [(b, .inr (9, [.int 0, .ref q1, .int 0, .int 0, .int 0, .int 0, .int 0, .int 0, .int 0, .int 0, .int (-1), .int 0, .ref q2, .int 0, .int 0, .ref q3, .ref q4, .ref q5, .ref q6, .ref q7, .ref q8, .ref q9, .ref q10, .ref q11, .ref q12, .ref q13, .ref q14, .ref q15, .null, .null, .int 0, .int 0, .int 0, .int 0, .int 0, .int 0, .null, .null, .null, .null])), (q1, .inl (cI, 900, .inl (fun _ => 0))), (q3, .inl (cI, 200, .inl (fun _ => 0)))]) [0, 1, 2] (by decide) rfl
  refine lv_aload_n hx hb dX9_init_137 rfl (lv_at hl 0 rfl) ?_
  refine lv_sipush (v := 159) hx hb dX9_init_138 (by decide) ?_
  refine r_newa (atype := .int) (ty := .int) F rfl k_194 hK hP hD hS hA 0 rfl 159 (159, .inl (fun _ => 0)) (bw_cI 159) (by decide) (by decide) (bw_by (k := 4) rfl (by omega)) (Nat.le_of_ble_eq_true rfl) (Nat.le_of_ble_eq_true rfl) dX9_init_141 (w1 := fun q16 => [(b, .inr (9, [.int 0, .ref q1, .int 0, .int 0, .int 0, .int 0, .int 0, .int 0, .int 0, .int 0, .int (-1), .int 0, .ref q2, .int 0, .int 0, .ref q3, .ref q4, .ref q5, .ref q6, .ref q7, .ref q8, .ref q9, .ref q10, .ref q11, .ref q12, .ref q13, .ref q14, .ref q15, .null, .null, .int 0, .int 0, .int 0, .int 0, .int 0, .int 0, .null, .null, .null, .null])), (q1, .inl (cI, 900, .inl (fun _ => 0))), (q3, .inl (cI, 200, .inl (fun _ => 0))), (q16, .inl (cI, 159, .inl (fun _ => 0)))]) (fun _ => rfl) (fun q16 H hP hD hS => ?_)
  refine r_putF F hK hP hD hS 0 28 rfl rfl in_X9 tyX9 tyX9_ok nmX9 (by decide) k_1191 rfl hin rfl rfl rfl (Nat.le_of_ble_eq_true rfl) dX9_init_143 (w1 := [(b, .inr (9, [.int 0, .ref q1, .int 0, .int 0, .int 0, .int 0, .int 0, .int 0, .int 0, .int 0, .int (-1), .int 0, .ref q2, .int 0, .int 0, .ref q3, .ref q4, .ref q5, .ref q6, .ref q7, .ref q8, .ref q9, .ref q10, .ref q11, .ref q12, .ref q13, .ref q14, .ref q15, .ref q16, .null, .int 0, .int 0, .int 0, .int 0, .int 0, .int 0, .null, .null, .null, .null])), (q1, .inl (cI, 900, .inl (fun _ => 0))), (q3, .inl (cI, 200, .inl (fun _ => 0))), (q16, .inl (cI, 159, .inl (fun _ => 0)))]) rfl (fun H locs hP hD hS => ?_)
  have hP := bw_subP (isC := [0, 1, 2]) (wc := [(b, .inr (9, [.int 0, .ref q1, .int 0, .int 0, .int 0, .int 0, .int 0, .int 0, .int 0, .int 0, .int (-1), .int 0, .ref q2, .int 0, .int 0, .ref q3, .ref q4, .ref q5, .ref q6, .ref q7, .ref q8, .ref q9, .ref q10, .ref q11, .ref q12, .ref q13, .ref q14, .ref q15, .ref q16, .null, .int 0, .int 0, .int 0, .int 0, .int 0, .int 0, .null, .null, .null, .null])), (q1, .inl (cI, 900, .inl (fun _ => 0))), (q3, .inl (cI, 200, .inl (fun _ => 0)))]) hP rfl
  have hD := hD.sub (ws' := [(b, .inr (9, [.int 0, .ref q1, .int 0, .int 0, .int 0, .int 0, .int 0, .int 0, .int 0, .int 0, .int (-1), .int 0, .ref q2, .int 0, .int 0, .ref q3, .ref q4, .ref q5, .ref q6, .ref q7, .ref q8, .ref q9, .ref q10, .ref q11, .ref q12, .ref q13, .ref q14, .ref q15, .ref q16, .null, .int 0, .int 0, .int 0, .int 0, .int 0, .int 0, .null, .null, .null, .null])), (q1, .inl (cI, 900, .inl (fun _ => 0))), (q3, .inl (cI, 200, .inl (fun _ => 0)))]) [0, 1, 2] (by decide) rfl
  refine lv_aload_n hx hb dX9_init_146 rfl (lv_at hl 0 rfl) ?_
  refine lv_sipush (v := 636) hx hb dX9_init_147 (by decide) ?_
  refine r_newa (atype := .int) (ty := .int) F rfl k_194 hK hP hD hS hA 0 rfl 636 (636, .inl (fun _ => 0)) (bw_cI 636) (by decide) (by decide) (bw_by (k := 4) rfl (by omega)) (Nat.le_of_ble_eq_true rfl) (Nat.le_of_ble_eq_true rfl) dX9_init_150 (w1 := fun q17 => [(b, .inr (9, [.int 0, .ref q1, .int 0, .int 0, .int 0, .int 0, .int 0, .int 0, .int 0, .int 0, .int (-1), .int 0, .ref q2, .int 0, .int 0, .ref q3, .ref q4, .ref q5, .ref q6, .ref q7, .ref q8, .ref q9, .ref q10, .ref q11, .ref q12, .ref q13, .ref q14, .ref q15, .ref q16, .null, .int 0, .int 0, .int 0, .int 0, .int 0, .int 0, .null, .null, .null, .null])), (q1, .inl (cI, 900, .inl (fun _ => 0))), (q3, .inl (cI, 200, .inl (fun _ => 0))), (q17, .inl (cI, 636, .inl (fun _ => 0)))]) (fun _ => rfl) (fun q17 H hP hD hS => ?_)
  refine r_putF F hK hP hD hS 0 29 rfl rfl in_X9 tyX9 tyX9_ok nmX9 (by decide) k_1192 rfl hin rfl rfl rfl (Nat.le_of_ble_eq_true rfl) dX9_init_152 (w1 := [(b, .inr (9, [.int 0, .ref q1, .int 0, .int 0, .int 0, .int 0, .int 0, .int 0, .int 0, .int 0, .int (-1), .int 0, .ref q2, .int 0, .int 0, .ref q3, .ref q4, .ref q5, .ref q6, .ref q7, .ref q8, .ref q9, .ref q10, .ref q11, .ref q12, .ref q13, .ref q14, .ref q15, .ref q16, .ref q17, .int 0, .int 0, .int 0, .int 0, .int 0, .int 0, .null, .null, .null, .null])), (q1, .inl (cI, 900, .inl (fun _ => 0))), (q3, .inl (cI, 200, .inl (fun _ => 0))), (q17, .inl (cI, 636, .inl (fun _ => 0)))]) rfl (fun H locs hP hD hS => ?_)
  have hP := bw_subP (isC := [0, 1, 2]) (wc := [(b, .inr (9, [.int 0, .ref q1, .int 0, .int 0, .int 0, .int 0, .int 0, .int 0, .int 0, .int 0, .int (-1), .int 0, .ref q2, .int 0, .int 0, .ref q3, .ref q4, .ref q5, .ref q6, .ref q7, .ref q8, .ref q9, .ref q10, .ref q11, .ref q12, .ref q13, .ref q14, .ref q15, .ref q16, .ref q17, .int 0, .int 0, .int 0, .int 0, .int 0, .int 0, .null, .null, .null, .null])), (q1, .inl (cI, 900, .inl (fun _ => 0))), (q3, .inl (cI, 200, .inl (fun _ => 0)))]) hP rfl
  have hD := hD.sub (ws' := [(b, .inr (9, [.int 0, .ref q1, .int 0, .int 0, .int 0, .int 0, .int 0, .int 0, .int 0, .int 0, .int (-1), .int 0, .ref q2, .int 0, .int 0, .ref q3, .ref q4, .ref q5, .ref q6, .ref q7, .ref q8, .ref q9, .ref q10, .ref q11, .ref q12, .ref q13, .ref q14, .ref q15, .ref q16, .ref q17, .int 0, .int 0, .int 0, .int 0, .int 0, .int 0, .null, .null, .null, .null])), (q1, .inl (cI, 900, .inl (fun _ => 0))), (q3, .inl (cI, 200, .inl (fun _ => 0)))]) [0, 1, 2] (by decide) rfl
  refine lv_aload_n hx hb dX9_init_155 rfl (lv_at hl 0 rfl) ?_
  refine lv_bipush (v := 20) hx hb dX9_init_156 (by decide) ?_
  refine r_newa (atype := .int) (ty := .int) F rfl k_194 hK hP hD hS hA 0 rfl 20 (20, .inl (fun _ => 0)) (bw_cI 20) (by decide) (by decide) (bw_by (k := 4) rfl (by omega)) (Nat.le_of_ble_eq_true rfl) (Nat.le_of_ble_eq_true rfl) dX9_init_158 (w1 := fun q18 => [(b, .inr (9, [.int 0, .ref q1, .int 0, .int 0, .int 0, .int 0, .int 0, .int 0, .int 0, .int 0, .int (-1), .int 0, .ref q2, .int 0, .int 0, .ref q3, .ref q4, .ref q5, .ref q6, .ref q7, .ref q8, .ref q9, .ref q10, .ref q11, .ref q12, .ref q13, .ref q14, .ref q15, .ref q16, .ref q17, .int 0, .int 0, .int 0, .int 0, .int 0, .int 0, .null, .null, .null, .null])), (q1, .inl (cI, 900, .inl (fun _ => 0))), (q3, .inl (cI, 200, .inl (fun _ => 0))), (q18, .inl (cI, 20, .inl (fun _ => 0)))]) (fun _ => rfl) (fun q18 H hP hD hS => ?_)
  refine r_putF F hK hP hD hS 0 36 rfl rfl in_X9 tyX9 tyX9_ok nmX9 (by decide) k_1199 rfl hin rfl rfl rfl (Nat.le_of_ble_eq_true rfl) dX9_init_160 (w1 := [(b, .inr (9, [.int 0, .ref q1, .int 0, .int 0, .int 0, .int 0, .int 0, .int 0, .int 0, .int 0, .int (-1), .int 0, .ref q2, .int 0, .int 0, .ref q3, .ref q4, .ref q5, .ref q6, .ref q7, .ref q8, .ref q9, .ref q10, .ref q11, .ref q12, .ref q13, .ref q14, .ref q15, .ref q16, .ref q17, .int 0, .int 0, .int 0, .int 0, .int 0, .int 0, .ref q18, .null, .null, .null])), (q1, .inl (cI, 900, .inl (fun _ => 0))), (q3, .inl (cI, 200, .inl (fun _ => 0))), (q18, .inl (cI, 20, .inl (fun _ => 0)))]) rfl (fun H locs hP hD hS => ?_)
  have hP := bw_subP (isC := [0, 1, 2]) (wc := [(b, .inr (9, [.int 0, .ref q1, .int 0, .int 0, .int 0, .int 0, .int 0, .int 0, .int 0, .int 0, .int (-1), .int 0, .ref q2, .int 0, .int 0, .ref q3, .ref q4, .ref q5, .ref q6, .ref q7, .ref q8, .ref q9, .ref q10, .ref q11, .ref q12, .ref q13, .ref q14, .ref q15, .ref q16, .ref q17, .int 0, .int 0, .int 0, .int 0, .int 0, .int 0, .ref q18, .null, .null, .null])), (q1, .inl (cI, 900, .inl (fun _ => 0))), (q3, .inl (cI, 200, .inl (fun _ => 0)))]) hP rfl
  have hD := hD.sub (ws' := [(b, .inr (9, [.int 0, .ref q1, .int 0, .int 0, .int 0, .int 0, .int 0, .int 0, .int 0, .int 0, .int (-1), .int 0, .ref q2, .int 0, .int 0, .ref q3, .ref q4, .ref q5, .ref q6, .ref q7, .ref q8, .ref q9, .ref q10, .ref q11, .ref q12, .ref q13, .ref q14, .ref q15, .ref q16, .ref q17, .int 0, .int 0, .int 0, .int 0, .int 0, .int 0, .ref q18, .null, .null, .null])), (q1, .inl (cI, 900, .inl (fun _ => 0))), (q3, .inl (cI, 200, .inl (fun _ => 0)))]) [0, 1, 2] (by decide) rfl
  refine lv_aload_n hx hb dX9_init_163 rfl (lv_at hl 0 rfl) ?_
  refine lv_sipush (v := 180) hx hb dX9_init_164 (by decide) ?_
  refine r_newa (atype := .int) (ty := .int) F rfl k_194 hK hP hD hS hA 0 rfl 180 (180, .inl (fun _ => 0)) (bw_cI 180) (by decide) (by decide) (bw_by (k := 4) rfl (by omega)) (Nat.le_of_ble_eq_true rfl) (Nat.le_of_ble_eq_true rfl) dX9_init_167 (w1 := fun q19 => [(b, .inr (9, [.int 0, .ref q1, .int 0, .int 0, .int 0, .int 0, .int 0, .int 0, .int 0, .int 0, .int (-1), .int 0, .ref q2, .int 0, .int 0, .ref q3, .ref q4, .ref q5, .ref q6, .ref q7, .ref q8, .ref q9, .ref q10, .ref q11, .ref q12, .ref q13, .ref q14, .ref q15, .ref q16, .ref q17, .int 0, .int 0, .int 0, .int 0, .int 0, .int 0, .ref q18, .null, .null, .null])), (q1, .inl (cI, 900, .inl (fun _ => 0))), (q3, .inl (cI, 200, .inl (fun _ => 0))), (q19, .inl (cI, 180, .inl (fun _ => 0)))]) (fun _ => rfl) (fun q19 H hP hD hS => ?_)
  refine r_putF F hK hP hD hS 0 37 rfl rfl in_X9 tyX9 tyX9_ok nmX9 (by decide) k_1200 rfl hin rfl rfl rfl (Nat.le_of_ble_eq_true rfl) dX9_init_169 (w1 := [(b, .inr (9, [.int 0, .ref q1, .int 0, .int 0, .int 0, .int 0, .int 0, .int 0, .int 0, .int 0, .int (-1), .int 0, .ref q2, .int 0, .int 0, .ref q3, .ref q4, .ref q5, .ref q6, .ref q7, .ref q8, .ref q9, .ref q10, .ref q11, .ref q12, .ref q13, .ref q14, .ref q15, .ref q16, .ref q17, .int 0, .int 0, .int 0, .int 0, .int 0, .int 0, .ref q18, .ref q19, .null, .null])), (q1, .inl (cI, 900, .inl (fun _ => 0))), (q3, .inl (cI, 200, .inl (fun _ => 0))), (q19, .inl (cI, 180, .inl (fun _ => 0)))]) rfl (fun H locs hP hD hS => ?_)
  have hP := bw_subP (isC := [0, 1, 2]) (wc := [(b, .inr (9, [.int 0, .ref q1, .int 0, .int 0, .int 0, .int 0, .int 0, .int 0, .int 0, .int 0, .int (-1), .int 0, .ref q2, .int 0, .int 0, .ref q3, .ref q4, .ref q5, .ref q6, .ref q7, .ref q8, .ref q9, .ref q10, .ref q11, .ref q12, .ref q13, .ref q14, .ref q15, .ref q16, .ref q17, .int 0, .int 0, .int 0, .int 0, .int 0, .int 0, .ref q18, .ref q19, .null, .null])), (q1, .inl (cI, 900, .inl (fun _ => 0))), (q3, .inl (cI, 200, .inl (fun _ => 0)))]) hP rfl
  have hD := hD.sub (ws' := [(b, .inr (9, [.int 0, .ref q1, .int 0, .int 0, .int 0, .int 0, .int 0, .int 0, .int 0, .int 0, .int (-1), .int 0, .ref q2, .int 0, .int 0, .ref q3, .ref q4, .ref q5, .ref q6, .ref q7, .ref q8, .ref q9, .ref q10, .ref q11, .ref q12, .ref q13, .ref q14, .ref q15, .ref q16, .ref q17, .int 0, .int 0, .int 0, .int 0, .int 0, .int 0, .ref q18, .ref q19, .null, .null])), (q1, .inl (cI, 900, .inl (fun _ => 0))), (q3, .inl (cI, 200, .inl (fun _ => 0)))]) [0, 1, 2] (by decide) rfl
  refine lv_aload_n hx hb dX9_init_172 rfl (lv_at hl 0 rfl) ?_
  refine lv_sipush (v := 200) hx hb dX9_init_173 (by decide) ?_
  refine r_newa (atype := .int) (ty := .int) F rfl k_194 hK hP hD hS hA 0 rfl 200 (200, .inl (fun _ => 0)) (bw_cI 200) (by decide) (by decide) (bw_by (k := 4) rfl (by omega)) (Nat.le_of_ble_eq_true rfl) (Nat.le_of_ble_eq_true rfl) dX9_init_176 (w1 := fun q20 => [(b, .inr (9, [.int 0, .ref q1, .int 0, .int 0, .int 0, .int 0, .int 0, .int 0, .int 0, .int 0, .int (-1), .int 0, .ref q2, .int 0, .int 0, .ref q3, .ref q4, .ref q5, .ref q6, .ref q7, .ref q8, .ref q9, .ref q10, .ref q11, .ref q12, .ref q13, .ref q14, .ref q15, .ref q16, .ref q17, .int 0, .int 0, .int 0, .int 0, .int 0, .int 0, .ref q18, .ref q19, .null, .null])), (q1, .inl (cI, 900, .inl (fun _ => 0))), (q3, .inl (cI, 200, .inl (fun _ => 0))), (q20, .inl (cI, 200, .inl (fun _ => 0)))]) (fun _ => rfl) (fun q20 H hP hD hS => ?_)
  refine r_putF F hK hP hD hS 0 38 rfl rfl in_X9 tyX9 tyX9_ok nmX9 (by decide) k_1201 rfl hin rfl rfl rfl (Nat.le_of_ble_eq_true rfl) dX9_init_178 (w1 := [(b, .inr (9, [.int 0, .ref q1, .int 0, .int 0, .int 0, .int 0, .int 0, .int 0, .int 0, .int 0, .int (-1), .int 0, .ref q2, .int 0, .int 0, .ref q3, .ref q4, .ref q5, .ref q6, .ref q7, .ref q8, .ref q9, .ref q10, .ref q11, .ref q12, .ref q13, .ref q14, .ref q15, .ref q16, .ref q17, .int 0, .int 0, .int 0, .int 0, .int 0, .int 0, .ref q18, .ref q19, .ref q20, .null])), (q1, .inl (cI, 900, .inl (fun _ => 0))), (q3, .inl (cI, 200, .inl (fun _ => 0))), (q20, .inl (cI, 200, .inl (fun _ => 0)))]) rfl (fun H locs hP hD hS => ?_)
  have hP := bw_subP (isC := [0, 1, 2]) (wc := [(b, .inr (9, [.int 0, .ref q1, .int 0, .int 0, .int 0, .int 0, .int 0, .int 0, .int 0, .int 0, .int (-1), .int 0, .ref q2, .int 0, .int 0, .ref q3, .ref q4, .ref q5, .ref q6, .ref q7, .ref q8, .ref q9, .ref q10, .ref q11, .ref q12, .ref q13, .ref q14, .ref q15, .ref q16, .ref q17, .int 0, .int 0, .int 0, .int 0, .int 0, .int 0, .ref q18, .ref q19, .ref q20, .null])), (q1, .inl (cI, 900, .inl (fun _ => 0))), (q3, .inl (cI, 200, .inl (fun _ => 0)))]) hP rfl
  have hD := hD.sub (ws' := [(b, .inr (9, [.int 0, .ref q1, .int 0, .int 0, .int 0, .int 0, .int 0, .int 0, .int 0, .int 0, .int (-1), .int 0, .ref q2, .int 0, .int 0, .ref q3, .ref q4, .ref q5, .ref q6, .ref q7, .ref q8, .ref q9, .ref q10, .ref q11, .ref q12, .ref q13, .ref q14, .ref q15, .ref q16, .ref q17, .int 0, .int 0, .int 0, .int 0, .int 0, .int 0, .ref q18, .ref q19, .ref q20, .null])), (q1, .inl (cI, 900, .inl (fun _ => 0))), (q3, .inl (cI, 200, .inl (fun _ => 0)))]) [0, 1, 2] (by decide) rfl
  refine lv_aload_n hx hb dX9_init_181 rfl (lv_at hl 0 rfl) ?_
  refine lv_iconst (v := 3) hx hb dX9_init_182 (by decide) ?_
  refine r_newa (atype := .int) (ty := .int) F rfl k_194 hK hP hD hS hA 0 rfl 3 (3, .inl (fun _ => 0)) (bw_cI 3) (by decide) (by decide) (bw_by (k := 4) rfl (by omega)) (Nat.le_of_ble_eq_true rfl) (Nat.le_of_ble_eq_true rfl) dX9_init_183 (w1 := fun q21 => [(b, .inr (9, [.int 0, .ref q1, .int 0, .int 0, .int 0, .int 0, .int 0, .int 0, .int 0, .int 0, .int (-1), .int 0, .ref q2, .int 0, .int 0, .ref q3, .ref q4, .ref q5, .ref q6, .ref q7, .ref q8, .ref q9, .ref q10, .ref q11, .ref q12, .ref q13, .ref q14, .ref q15, .ref q16, .ref q17, .int 0, .int 0, .int 0, .int 0, .int 0, .int 0, .ref q18, .ref q19, .ref q20, .null])), (q1, .inl (cI, 900, .inl (fun _ => 0))), (q3, .inl (cI, 200, .inl (fun _ => 0))), (q21, .inl (cI, 3, .inl (fun _ => 0)))]) (fun _ => rfl) (fun q21 H hP hD hS => ?_)
  refine r_putF F hK hP hD hS 0 39 rfl rfl in_X9 tyX9 tyX9_ok nmX9 (by decide) k_1202 rfl hin rfl rfl rfl (Nat.le_of_ble_eq_true rfl) dX9_init_185 (w1 := [(b, .inr (9, [.int 0, .ref q1, .int 0, .int 0, .int 0, .int 0, .int 0, .int 0, .int 0, .int 0, .int (-1), .int 0, .ref q2, .int 0, .int 0, .ref q3, .ref q4, .ref q5, .ref q6, .ref q7, .ref q8, .ref q9, .ref q10, .ref q11, .ref q12, .ref q13, .ref q14, .ref q15, .ref q16, .ref q17, .int 0, .int 0, .int 0, .int 0, .int 0, .int 0, .ref q18, .ref q19, .ref q20, .ref q21])), (q1, .inl (cI, 900, .inl (fun _ => 0))), (q3, .inl (cI, 200, .inl (fun _ => 0))), (q21, .inl (cI, 3, .inl (fun _ => 0)))]) rfl (fun H locs hP hD hS => ?_)
  have hP := bw_subP (isC := [0, 1, 2]) (wc := [(b, .inr (9, [.int 0, .ref q1, .int 0, .int 0, .int 0, .int 0, .int 0, .int 0, .int 0, .int 0, .int (-1), .int 0, .ref q2, .int 0, .int 0, .ref q3, .ref q4, .ref q5, .ref q6, .ref q7, .ref q8, .ref q9, .ref q10, .ref q11, .ref q12, .ref q13, .ref q14, .ref q15, .ref q16, .ref q17, .int 0, .int 0, .int 0, .int 0, .int 0, .int 0, .ref q18, .ref q19, .ref q20, .ref q21])), (q1, .inl (cI, 900, .inl (fun _ => 0))), (q3, .inl (cI, 200, .inl (fun _ => 0)))]) hP rfl
  have hD := hD.sub (ws' := [(b, .inr (9, [.int 0, .ref q1, .int 0, .int 0, .int 0, .int 0, .int 0, .int 0, .int 0, .int 0, .int (-1), .int 0, .ref q2, .int 0, .int 0, .ref q3, .ref q4, .ref q5, .ref q6, .ref q7, .ref q8, .ref q9, .ref q10, .ref q11, .ref q12, .ref q13, .ref q14, .ref q15, .ref q16, .ref q17, .int 0, .int 0, .int 0, .int 0, .int 0, .int 0, .ref q18, .ref q19, .ref q20, .ref q21])), (q1, .inl (cI, 900, .inl (fun _ => 0))), (q3, .inl (cI, 200, .inl (fun _ => 0)))]) [0, 1, 2] (by decide) rfl
  exact ret ((fun k => [q1, q2, q3, q4, q5, q6, q7, q8, q9, q10, q11, q12, q13, q14, q15, q16, q17, q18, q19, q20, q21].getD k 0), fun _ _ => 0) _ _ _ _ _ _ trivial (bw_subP (isC := [0, 1, 2]) hP rfl) (hD.sub [0, 1, 2] (by decide) rfl) hS (Nat.le_of_ble_eq_true rfl) (Nat.le_of_ble_eq_true rfl) dX9_init_188
end
section
def bw_size (w : Int32) : Int32 := if 0 ≤ w ∧ w ≤ 6 then 0 else -1
def bw_loop (a b : Int32) : Int32 := if (1 ≤ a ∧ a ≤ 9) ∧ (1 ≤ b ∧ b ≤ 99) then (if a = 1 then a * ((b + 10 - 1) / 10) else a * ((b + 9 - 1) / 9)) else -1
theorem bw_loop_no {a b : Int32} (h : ¬ ((1 ≤ a ∧ a ≤ 9) ∧ (1 ≤ b ∧ b ≤ 99))) : bw_loop a b = -1 := if_neg h
theorem bw_loop_1 {b : Int32} (h : 1 ≤ b ∧ b ≤ 99) : bw_loop 1 b = 1 * ((b + 10 - 1) / 10) := by
  unfold bw_loop; rw [if_pos ⟨⟨by decide, by decide⟩, h⟩, if_pos rfl]
theorem bw_loop_n {a b : Int32} (h : (1 ≤ a ∧ a ≤ 9) ∧ (1 ≤ b ∧ b ≤ 99)) (h1 : ¬ a = 1) : bw_loop a b = a * ((b + 9 - 1) / 9) := by
  unfold bw_loop; rw [if_pos h, if_neg h1]
theorem bw_sw (x : Int32) : (x.toInt < 0 ∨ 6 < x.toInt) ∨ x = 0 ∨ x = 1 ∨ x = 2 ∨ x = 3 ∨ x = 4 ∨ x = 5 ∨ x = 6 := by
  by_cases h : x.toInt < 0 ∨ 6 < x.toInt
  · exact Or.inl h
  · refine Or.inr ?_
    have e : ∀ k : Int32, x.toInt = k.toInt → x = k := fun k q => Int32.toInt_inj.mp q
    have h0 : x.toInt = 0 ∨ x.toInt = 1 ∨ x.toInt = 2 ∨ x.toInt = 3 ∨ x.toInt = 4 ∨ x.toInt = 5 ∨ x.toInt = 6 := by omega
    rcases h0 with q | q | q | q | q | q | q
    · exact Or.inl (e 0 q)
    · exact Or.inr (Or.inl (e 1 q))
    · exact Or.inr (Or.inr (Or.inl (e 2 q)))
    · exact Or.inr (Or.inr (Or.inr (Or.inl (e 3 q))))
    · exact Or.inr (Or.inr (Or.inr (Or.inr (Or.inl (e 4 q)))))
    · exact Or.inr (Or.inr (Or.inr (Or.inr (Or.inr (Or.inl (e 5 q))))))
    · exact Or.inr (Or.inr (Or.inr (Or.inr (Or.inr (Or.inr (e 6 q))))))
theorem bw_size_out {x : Int32} (h : x.toInt < 0 ∨ 6 < x.toInt) : bw_size x = -1 := by
  unfold bw_size
  refine if_neg (fun q => ?_)
  have a := Int32.le_iff_toInt_le.mp q.1
  have b := Int32.le_iff_toInt_le.mp q.2
  have e0 : (0 : Int32).toInt = 0 := by decide
  have e6 : (6 : Int32).toInt = 6 := by decide
  omega
theorem bw_in20 {x : Int32} (h0 : ¬ x < 0) (h1 : ¬ 20 ≤ x) : vp_in x 20 := bw_inlt (by omega) h0 (Int32.not_le.mp h1)
theorem dX8_refuse_0 : decode cX8_refuse 0 = .ok (.aload_n 0, 1) := by decide +kernel
theorem dX8_refuse_1 : decode cX8_refuse 1 = .ok (.iload_n 1, 1) := by decide +kernel
theorem dX8_refuse_2 : decode cX8_refuse 2 = .ok (.putfield 9, 3) := by decide +kernel
theorem dX8_refuse_5 : decode cX8_refuse 5 = .ok (.iconst (-1), 1) := by decide +kernel
theorem dX8_refuse_6 : decode cX8_refuse 6 = .ok (.ireturn, 1) := by decide +kernel
abbrev rm_X8_refuse : Room := { frames := 0, cells := 0, slots := 0, locals := 0 }
set_option maxRecDepth 100000 in
set_option maxHeartbeats 4000000 in
theorem c_X8_refuse {l : Launch} {E : (Nat → Prop) → State → Prop} (hO : bw_Ok E) {G : va_G} {cI cB cJ cN cW : ClassId} (b : Nat) (q : Nat → Nat) (n : Int32) : bw_Ci (S := bw_U) l yX8_refuse (bw_ws (Cond.code yX8_refuse cX8_refuse 2 (some .int))) rm_X8_refuse E G (bw_kt cI cB cJ cN cW) [.ref b, .int n] [(b, .inr (8, [.int 0, .int 0, .ref (q 0), .ref (q 1), .ref (q 2), .ref (q 3), .ref (q 4), .ref (q 5), .ref (q 6), .ref (q 7), .ref (q 8), .ref (q 9), .ref (q 10), .ref (q 11)]))] (fun r _ => r = -1) (fun _ => []) := by
  refine bw_Ci.of (cc := cX8_refuse) (maxL := 2) (ty := .int) (by decide) rfl (Nat.le_of_ble_eq_true rfl) ?_
  intro p e s m below meth c A Q hx hb hml hts hown hin hK hA hS hP hD hE ret ls hl
  have F : CallFix p m c cX8_refuse 2 s ([.ref b, .int n] : List Value).toArray bw_T RX8 := ⟨hx, hb, hml, hown, fun w h => hts w (List.mem_cons_of_mem _ h)⟩
  have hl : lv_has ls 2 [(0, .ref b), (1, .int n)] := hl
  refine lv_aload_n hx hb dX8_refuse_0 rfl (lv_at hl 0 rfl) ?_
  refine lv_iload_n hx hb dX8_refuse_1 rfl (lv_at hl 1 rfl) ?_
  refine r_put F hK hP hD hS 0 0 rfl rfl in_X8 tyX8 tyX8_ok nmX8 (by decide) k_495 rfl rfl rfl (Nat.le_of_ble_eq_true rfl) dX8_refuse_2 (w1 := [(b, .inr (8, [.int n, .int 0, .ref (q 0), .ref (q 1), .ref (q 2), .ref (q 3), .ref (q 4), .ref (q 5), .ref (q 6), .ref (q 7), .ref (q 8), .ref (q 9), .ref (q 10), .ref (q 11)]))]) rfl (fun H locs hP hD hS => ?_)
  refine lv_iconst (v := (-1)) hx hb dX8_refuse_5 (by decide) ?_
  exact ret (-1) (fun _ => 0, fun _ _ => 0) _ _ _ _ _ _ rfl rfl (bw_subP (isC := []) hP rfl) (hD.sub [] (by decide) rfl) hS (Nat.le_of_ble_eq_true rfl) (Nat.le_of_ble_eq_true rfl) dX8_refuse_6
theorem dX8_grant_0 : decode cX8_grant 0 = .ok (.aload_n 0, 1) := by decide +kernel
theorem dX8_grant_1 : decode cX8_grant 1 = .ok (.iconst 0, 1) := by decide +kernel
theorem dX8_grant_2 : decode cX8_grant 2 = .ok (.putfield 9, 3) := by decide +kernel
theorem dX8_grant_5 : decode cX8_grant 5 = .ok (.iload_n 1, 1) := by decide +kernel
theorem dX8_grant_6 : decode cX8_grant 6 = .ok (.ireturn, 1) := by decide +kernel
abbrev rm_X8_grant : Room := { frames := 0, cells := 0, slots := 0, locals := 0 }
set_option maxRecDepth 100000 in
set_option maxHeartbeats 4000000 in
theorem c_X8_grant {l : Launch} {E : (Nat → Prop) → State → Prop} (hO : bw_Ok E) {G : va_G} {cI cB cJ cN cW : ClassId} (b : Nat) (q : Nat → Nat) (n : Int32) : bw_Ci (S := bw_U) l yX8_grant (bw_ws (Cond.code yX8_grant cX8_grant 2 (some .int))) rm_X8_grant E G (bw_kt cI cB cJ cN cW) [.ref b, .int n] [(b, .inr (8, [.int 0, .int 0, .ref (q 0), .ref (q 1), .ref (q 2), .ref (q 3), .ref (q 4), .ref (q 5), .ref (q 6), .ref (q 7), .ref (q 8), .ref (q 9), .ref (q 10), .ref (q 11)]))] (fun r _ => r = n) (fun _ => []) := by
  refine bw_Ci.of (cc := cX8_grant) (maxL := 2) (ty := .int) (by decide) rfl (Nat.le_of_ble_eq_true rfl) ?_
  intro p e s m below meth c A Q hx hb hml hts hown hin hK hA hS hP hD hE ret ls hl
  have F : CallFix p m c cX8_grant 2 s ([.ref b, .int n] : List Value).toArray bw_T RX8 := ⟨hx, hb, hml, hown, fun w h => hts w (List.mem_cons_of_mem _ h)⟩
  have hl : lv_has ls 2 [(0, .ref b), (1, .int n)] := hl
  refine lv_aload_n hx hb dX8_grant_0 rfl (lv_at hl 0 rfl) ?_
  refine lv_iconst (v := 0) hx hb dX8_grant_1 (by decide) ?_
  refine r_put F hK hP hD hS 0 0 rfl rfl in_X8 tyX8 tyX8_ok nmX8 (by decide) k_495 rfl rfl rfl (Nat.le_of_ble_eq_true rfl) dX8_grant_2 (w1 := [(b, .inr (8, [.int 0, .int 0, .ref (q 0), .ref (q 1), .ref (q 2), .ref (q 3), .ref (q 4), .ref (q 5), .ref (q 6), .ref (q 7), .ref (q 8), .ref (q 9), .ref (q 10), .ref (q 11)]))]) rfl (fun H locs hP hD hS => ?_)
  refine lv_iload_n hx hb dX8_grant_5 rfl (lv_at hl 1 rfl) ?_
  exact ret n (fun _ => 0, fun _ _ => 0) _ _ _ _ _ _ rfl rfl (bw_subP (isC := []) hP rfl) (hD.sub [] (by decide) rfl) hS (Nat.le_of_ble_eq_true rfl) (Nat.le_of_ble_eq_true rfl) dX8_grant_6
theorem dX8_isLoaded_0 : decode cX8_isLoaded 0 = .ok (.aload_n 0, 1) := by decide +kernel
theorem dX8_isLoaded_1 : decode cX8_isLoaded 1 = .ok (.aload_n 0, 1) := by decide +kernel
theorem dX8_isLoaded_2 : decode cX8_isLoaded 2 = .ok (.getfield 13, 3) := by decide +kernel
theorem dX8_isLoaded_5 : decode cX8_isLoaded 5 = .ok (.ifCond .eq 7, 3) := by decide +kernel
theorem dX8_isLoaded_12 : decode cX8_isLoaded 12 = .ok (.iconst 1, 1) := by decide +kernel
theorem dX8_isLoaded_13 : decode cX8_isLoaded 13 = .ok (.putfield 9, 3) := by decide +kernel
theorem dX8_isLoaded_16 : decode cX8_isLoaded 16 = .ok (.aload_n 0, 1) := by decide +kernel
theorem dX8_isLoaded_17 : decode cX8_isLoaded 17 = .ok (.getfield 13, 3) := by decide +kernel
theorem dX8_isLoaded_20 : decode cX8_isLoaded 20 = .ok (.ireturn, 1) := by decide +kernel
abbrev rm_X8_isLoaded : Room := { frames := 0, cells := 0, slots := 0, locals := 0 }
set_option maxRecDepth 100000 in
set_option maxHeartbeats 4000000 in
theorem c_X8_isLoaded {l : Launch} {E : (Nat → Prop) → State → Prop} (hO : bw_Ok E) {G : va_G} {cI cB cJ cN cW : ClassId} (b : Nat) (q : Nat → Nat) : bw_Ci (S := bw_U) l yX8_isLoaded (bw_ws (Cond.code yX8_isLoaded cX8_isLoaded 1 (some .boolean))) rm_X8_isLoaded E G (bw_kt cI cB cJ cN cW) [.ref b] [(b, .inr (8, [.int 0, .int 0, .ref (q 0), .ref (q 1), .ref (q 2), .ref (q 3), .ref (q 4), .ref (q 5), .ref (q 6), .ref (q 7), .ref (q 8), .ref (q 9), .ref (q 10), .ref (q 11)]))] (fun r _ => r = 0) (fun _ => []) := by
  refine bw_Ci.of (cc := cX8_isLoaded) (maxL := 1) (ty := .boolean) (by decide) rfl (Nat.le_of_ble_eq_true rfl) ?_
  intro p e s m below meth c A Q hx hb hml hts hown hin hK hA hS hP hD hE ret ls hl
  have F : CallFix p m c cX8_isLoaded 1 s ([.ref b] : List Value).toArray bw_T RX8 := ⟨hx, hb, hml, hown, fun w h => hts w (List.mem_cons_of_mem _ h)⟩
  have hl : lv_has ls 1 [(0, .ref b)] := hl
  refine lv_aload_n hx hb dX8_isLoaded_0 rfl (lv_at hl 0 rfl) ?_
  refine lv_aload_n hx hb dX8_isLoaded_1 rfl (lv_at hl 0 rfl) ?_
  refine r_get F hK hP 0 1 rfl rfl in_X8 (by decide) k_496 rfl dX8_isLoaded_2 ?_
  refine lv_if_eq (tgt := 12) hx hb dX8_isLoaded_5 (by decide) (fun _ => ?_) (fun h9 => absurd (by decide) h9)
  refine lv_iconst (v := 1) hx hb dX8_isLoaded_12 (by decide) ?_
  refine r_put F hK hP hD hS 0 0 rfl rfl in_X8 tyX8 tyX8_ok nmX8 (by decide) k_495 rfl rfl rfl (Nat.le_of_ble_eq_true rfl) dX8_isLoaded_13 (w1 := [(b, .inr (8, [.int 1, .int 0, .ref (q 0), .ref (q 1), .ref (q 2), .ref (q 3), .ref (q 4), .ref (q 5), .ref (q 6), .ref (q 7), .ref (q 8), .ref (q 9), .ref (q 10), .ref (q 11)]))]) rfl (fun H locs hP hD hS => ?_)
  refine lv_aload_n hx hb dX8_isLoaded_16 rfl (lv_at hl 0 rfl) ?_
  refine r_get F hK hP 0 1 rfl rfl in_X8 (by decide) k_496 rfl dX8_isLoaded_17 ?_
  exact ret 0 (fun _ => 0, fun _ _ => 0) _ _ _ _ _ _ rfl rfl (bw_subP (isC := []) hP rfl) (hD.sub [] (by decide) rfl) hS (Nat.le_of_ble_eq_true rfl) (Nat.le_of_ble_eq_true rfl) dX8_isLoaded_20
theorem dX8_mayStart_0 : decode cX8_mayStart 0 = .ok (.aload_n 0, 1) := by decide +kernel
theorem dX8_mayStart_1 : decode cX8_mayStart 1 = .ok (.invokevirtual 145, 3) := by decide +kernel
theorem k_683 : Cond.methodLink RX8 145 yX8_isLoaded ∈ bw_T := bw_m 683 (by decide +kernel) rfl
theorem kv_X8_isLoaded : bw_KV RX8 yX8_isLoaded (Cond.code yX8_isLoaded cX8_isLoaded 1 (some .boolean)) := ⟨bw_m 685 (by decide +kernel) rfl, bw_m 22 (by decide +kernel) rfl, bw_m 94 (by decide +kernel) rfl, bw_m 686 (by decide +kernel) rfl⟩
theorem dX8_mayStart_4 : decode cX8_mayStart 4 = .ok (.ifCond .ne 5, 3) := by decide +kernel
theorem dX8_mayStart_7 : decode cX8_mayStart 7 = .ok (.iconst 0, 1) := by decide +kernel
theorem dX8_mayStart_8 : decode cX8_mayStart 8 = .ok (.ireturn, 1) := by decide +kernel
abbrev rm_X8_mayStart : Room := { frames := 1, cells := 0, slots := 0, locals := 20 }
set_option maxRecDepth 100000 in
set_option maxHeartbeats 4000000 in
theorem c_X8_mayStart {l : Launch} {E : (Nat → Prop) → State → Prop} (hO : bw_Ok E) {G : va_G} {cI cB cJ cN cW : ClassId} (b : Nat) (q : Nat → Nat) (a1 : Int32) (a2 : Int32) (a3 : Int32) (a4 : Int32) : bw_Ci (S := bw_U) l yX8_mayStart (bw_ws (Cond.code yX8_mayStart cX8_mayStart 5 (some .boolean))) rm_X8_mayStart E G (bw_kt cI cB cJ cN cW) [.ref b, .int a1, .int a2, .int a3, .int a4] [(b, .inr (8, [.int 0, .int 0, .ref (q 0), .ref (q 1), .ref (q 2), .ref (q 3), .ref (q 4), .ref (q 5), .ref (q 6), .ref (q 7), .ref (q 8), .ref (q 9), .ref (q 10), .ref (q 11)]))] (fun r _ => r = 0) (fun _ => []) := by
  refine bw_Ci.of (cc := cX8_mayStart) (maxL := 5) (ty := .boolean) (by decide) rfl (Nat.le_of_ble_eq_true rfl) ?_
  intro p e s m below meth c A Q hx hb hml hts hown hin hK hA hS hP hD hE ret ls hl
  have F : CallFix p m c cX8_mayStart 5 s ([.ref b, .int a1, .int a2, .int a3, .int a4] : List Value).toArray bw_T RX8 := ⟨hx, hb, hml, hown, fun w h => hts w (List.mem_cons_of_mem _ h)⟩
  have hl : lv_has ls 5 [(0, .ref b), (1, .int a1), (2, .int a2), (3, .int a3), (4, .int a4)] := hl
  refine lv_aload_n hx hb dX8_mayStart_0 rfl (lv_at hl 0 rfl) ?_
  refine r_callVi (As := []) (rest := []) (wr := []) F hK hP hD hS hA hO hE (c_X8_isLoaded hO b q) k_683 kv_X8_isLoaded 0 rfl (by decide +kernel) ⟨Nat.le_of_ble_eq_true rfl, Nat.le_of_ble_eq_true rfl⟩ [0] [] rfl rfl (by decide) (by decide) (by decide) 0 8 rfl rfl rfl hl.1 rfl (Nat.le_of_ble_eq_true rfl) dX8_mayStart_1 ⟨Nat.le_of_ble_eq_true rfl, Nat.le_of_ble_eq_true rfl⟩ (w1 := fun u1 => []) (fun _ => rfl) (fun r2 u1 H locs hp hP hD hS => ?_)
  subst hp
  refine lv_if_ne (tgt := 9) hx hb dX8_mayStart_4 (by decide) (fun h9 => absurd (by decide) h9) (fun _ => ?_)
  refine lv_iconst (v := 0) hx hb dX8_mayStart_7 (by decide) ?_
  exact ret 0 (fun _ => 0, fun _ _ => 0) _ _ _ _ _ _ rfl rfl (bw_subP (isC := []) hP rfl) (hD.sub [] (by decide) rfl) hS (Nat.le_of_ble_eq_true rfl) (Nat.le_of_ble_eq_true rfl) dX8_mayStart_8
theorem dX8_surveyed_0 : decode cX8_surveyed 0 = .ok (.aload_n 0, 1) := by decide +kernel
theorem dX8_surveyed_1 : decode cX8_surveyed 1 = .ok (.invokevirtual 145, 3) := by decide +kernel
theorem dX8_surveyed_4 : decode cX8_surveyed 4 = .ok (.ifCond .ne 5, 3) := by decide +kernel
theorem dX8_surveyed_7 : decode cX8_surveyed 7 = .ok (.iconst 0, 1) := by decide +kernel
theorem dX8_surveyed_8 : decode cX8_surveyed 8 = .ok (.ireturn, 1) := by decide +kernel
abbrev rm_X8_surveyed : Room := { frames := 1, cells := 0, slots := 0, locals := 20 }
set_option maxRecDepth 100000 in
set_option maxHeartbeats 4000000 in
theorem c_X8_surveyed {l : Launch} {E : (Nat → Prop) → State → Prop} (hO : bw_Ok E) {G : va_G} {cI cB cJ cN cW : ClassId} (b : Nat) (q : Nat → Nat) (k : Int32) : bw_Ci (S := bw_U) l yX8_surveyed (bw_ws (Cond.code yX8_surveyed cX8_surveyed 2 (some .boolean))) rm_X8_surveyed E G (bw_kt cI cB cJ cN cW) [.ref b, .int k] [(b, .inr (8, [.int 0, .int 0, .ref (q 0), .ref (q 1), .ref (q 2), .ref (q 3), .ref (q 4), .ref (q 5), .ref (q 6), .ref (q 7), .ref (q 8), .ref (q 9), .ref (q 10), .ref (q 11)]))] (fun r _ => r = 0) (fun _ => []) := by
  refine bw_Ci.of (cc := cX8_surveyed) (maxL := 2) (ty := .boolean) (by decide) rfl (Nat.le_of_ble_eq_true rfl) ?_
  intro p e s m below meth c A Q hx hb hml hts hown hin hK hA hS hP hD hE ret ls hl
  have F : CallFix p m c cX8_surveyed 2 s ([.ref b, .int k] : List Value).toArray bw_T RX8 := ⟨hx, hb, hml, hown, fun w h => hts w (List.mem_cons_of_mem _ h)⟩
  have hl : lv_has ls 2 [(0, .ref b), (1, .int k)] := hl
  refine lv_aload_n hx hb dX8_surveyed_0 rfl (lv_at hl 0 rfl) ?_
  refine r_callVi (As := []) (rest := []) (wr := []) F hK hP hD hS hA hO hE (c_X8_isLoaded hO b q) k_683 kv_X8_isLoaded 0 rfl (by decide +kernel) ⟨Nat.le_of_ble_eq_true rfl, Nat.le_of_ble_eq_true rfl⟩ [0] [] rfl rfl (by decide) (by decide) (by decide) 0 8 rfl rfl rfl hl.1 rfl (Nat.le_of_ble_eq_true rfl) dX8_surveyed_1 ⟨Nat.le_of_ble_eq_true rfl, Nat.le_of_ble_eq_true rfl⟩ (w1 := fun u1 => []) (fun _ => rfl) (fun r2 u1 H locs hp hP hD hS => ?_)
  subst hp
  refine lv_if_ne (tgt := 9) hx hb dX8_surveyed_4 (by decide) (fun h9 => absurd (by decide) h9) (fun _ => ?_)
  refine lv_iconst (v := 0) hx hb dX8_surveyed_7 (by decide) ?_
  exact ret 0 (fun _ => 0, fun _ _ => 0) _ _ _ _ _ _ rfl rfl (bw_subP (isC := []) hP rfl) (hD.sub [] (by decide) rfl) hS (Nat.le_of_ble_eq_true rfl) (Nat.le_of_ble_eq_true rfl) dX8_surveyed_8
theorem dX2_hasLine_0 : decode cX2_hasLine 0 = .ok (.iload_n 1, 1) := by decide +kernel
theorem dX2_hasLine_1 : decode cX2_hasLine 1 = .ok (.ifCond .lt 15, 3) := by decide +kernel
theorem dX2_hasLine_16 : decode cX2_hasLine 16 = .ok (.iconst 0, 1) := by decide +kernel
theorem dX2_hasLine_17 : decode cX2_hasLine 17 = .ok (.ireturn, 1) := by decide +kernel
theorem dX2_hasLine_4 : decode cX2_hasLine 4 = .ok (.iload_n 1, 1) := by decide +kernel
theorem dX2_hasLine_5 : decode cX2_hasLine 5 = .ok (.aload_n 0, 1) := by decide +kernel
theorem dX2_hasLine_6 : decode cX2_hasLine 6 = .ok (.getfield 9, 3) := by decide +kernel
theorem dX2_hasLine_9 : decode cX2_hasLine 9 = .ok (.if_icmp .ge 7, 3) := by decide +kernel
abbrev rm_X2_hasLine : Room := { frames := 0, cells := 0, slots := 0, locals := 0 }
set_option maxRecDepth 100000 in
set_option maxHeartbeats 4000000 in
theorem c_X2_hasLine {l : Launch} {E : (Nat → Prop) → State → Prop} (hO : bw_Ok E) {G : va_G} {cI cB cJ cN cW : ClassId} (b : Nat) (q : Nat → Nat) (x : Int32) : bw_Ci (S := bw_U) l yX2_hasLine (bw_ws (Cond.code yX2_hasLine cX2_hasLine 2 (some .boolean))) rm_X2_hasLine E G (bw_kt cI cB cJ cN cW) [.ref b, .int x] [(b, .inr (2, [.int 0, .ref (q 40), .ref (q 41), .ref (q 42), .ref (q 43), .ref (q 44), .ref (q 45), .ref (q 46), .ref (q 47)]))] (fun r _ => r = 0) (fun _ => []) := by
  refine bw_Ci.of (cc := cX2_hasLine) (maxL := 2) (ty := .boolean) (by decide) rfl (Nat.le_of_ble_eq_true rfl) ?_
  intro p e s m below meth c A Q hx hb hml hts hown hin hK hA hS hP hD hE ret ls hl
  have F : CallFix p m c cX2_hasLine 2 s ([.ref b, .int x] : List Value).toArray bw_T RX2 := ⟨hx, hb, hml, hown, fun w h => hts w (List.mem_cons_of_mem _ h)⟩
  have hl : lv_has ls 2 [(0, .ref b), (1, .int x)] := hl
  refine lv_iload_n hx hb dX2_hasLine_0 rfl (lv_at hl 1 rfl) ?_
  refine lv_if_lt (tgt := 16) hx hb dX2_hasLine_1 (by decide) (fun h1 => ?_) (fun h1 => ?_)
  · refine lv_iconst (v := 0) hx hb dX2_hasLine_16 (by decide) ?_
    exact ret 0 (fun _ => 0, fun _ _ => 0) _ _ _ _ _ _ rfl rfl (bw_subP (isC := []) hP rfl) (hD.sub [] (by decide) rfl) hS (Nat.le_of_ble_eq_true rfl) (Nat.le_of_ble_eq_true rfl) dX2_hasLine_17
  · refine lv_iload_n hx hb dX2_hasLine_4 rfl (lv_at hl 1 rfl) ?_
    refine lv_aload_n hx hb dX2_hasLine_5 rfl (lv_at hl 0 rfl) ?_
    refine r_get F hK hP 0 0 rfl rfl in_X2 (by decide) k_144 rfl dX2_hasLine_6 ?_
    refine lv_icmp_ge (tgt := 16) hx hb dX2_hasLine_9 (by decide) (fun _ => ?_) (fun h9 => absurd (Int32.not_lt.mp h1) h9)
    refine lv_iconst (v := 0) hx hb dX2_hasLine_16 (by decide) ?_
    exact ret 0 (fun _ => 0, fun _ _ => 0) _ _ _ _ _ _ rfl rfl (bw_subP (isC := []) hP rfl) (hD.sub [] (by decide) rfl) hS (Nat.le_of_ble_eq_true rfl) (Nat.le_of_ble_eq_true rfl) dX2_hasLine_17
theorem dX2_hasWay_0 : decode cX2_hasWay 0 = .ok (.iload_n 1, 1) := by decide +kernel
theorem dX2_hasWay_1 : decode cX2_hasWay 1 = .ok (.ifCond .lt 22, 3) := by decide +kernel
theorem dX2_hasWay_23 : decode cX2_hasWay 23 = .ok (.iconst 0, 1) := by decide +kernel
theorem dX2_hasWay_24 : decode cX2_hasWay 24 = .ok (.ireturn, 1) := by decide +kernel
theorem dX2_hasWay_4 : decode cX2_hasWay 4 = .ok (.iload_n 1, 1) := by decide +kernel
theorem dX2_hasWay_5 : decode cX2_hasWay 5 = .ok (.bipush 20, 2) := by decide +kernel
theorem dX2_hasWay_7 : decode cX2_hasWay 7 = .ok (.if_icmp .ge 16, 3) := by decide +kernel
theorem dX2_hasWay_10 : decode cX2_hasWay 10 = .ok (.aload_n 0, 1) := by decide +kernel
theorem dX2_hasWay_11 : decode cX2_hasWay 11 = .ok (.getfield 37, 3) := by decide +kernel
theorem dX2_hasWay_14 : decode cX2_hasWay 14 = .ok (.iload_n 1, 1) := by decide +kernel
theorem dX2_hasWay_15 : decode cX2_hasWay 15 = .ok (.iaload, 1) := by decide +kernel
theorem dX2_hasWay_16 : decode cX2_hasWay 16 = .ok (.ifCond .le 7, 3) := by decide +kernel
abbrev rm_X2_hasWay : Room := { frames := 0, cells := 0, slots := 0, locals := 0 }
set_option maxRecDepth 100000 in
set_option maxHeartbeats 4000000 in
theorem c_X2_hasWay {l : Launch} {E : (Nat → Prop) → State → Prop} (hO : bw_Ok E) {G : va_G} {cI cB cJ cN cW : ClassId} (b : Nat) (q : Nat → Nat) (x : Int32) : bw_Ci (S := bw_U) l yX2_hasWay (bw_ws (Cond.code yX2_hasWay cX2_hasWay 2 (some .boolean))) rm_X2_hasWay E G (bw_kt cI cB cJ cN cW) [.ref b, .int x] [(b, .inr (2, [.int 0, .ref (q 40), .ref (q 41), .ref (q 42), .ref (q 43), .ref (q 44), .ref (q 45), .ref (q 46), .ref (q 47)])), ((q 47), .inl (cI, 20, .inl (fun _ => 0)))] (fun r _ => r = 0) (fun _ => []) := by
  refine bw_Ci.of (cc := cX2_hasWay) (maxL := 2) (ty := .boolean) (by decide) rfl (Nat.le_of_ble_eq_true rfl) ?_
  intro p e s m below meth c A Q hx hb hml hts hown hin hK hA hS hP hD hE ret ls hl
  have F : CallFix p m c cX2_hasWay 2 s ([.ref b, .int x] : List Value).toArray bw_T RX2 := ⟨hx, hb, hml, hown, fun w h => hts w (List.mem_cons_of_mem _ h)⟩
  have hl : lv_has ls 2 [(0, .ref b), (1, .int x)] := hl
  refine lv_iload_n hx hb dX2_hasWay_0 rfl (lv_at hl 1 rfl) ?_
  refine lv_if_lt (tgt := 23) hx hb dX2_hasWay_1 (by decide) (fun h1 => ?_) (fun h1 => ?_)
  · refine lv_iconst (v := 0) hx hb dX2_hasWay_23 (by decide) ?_
    exact ret 0 (fun _ => 0, fun _ _ => 0) _ _ _ _ _ _ rfl rfl (bw_subP (isC := []) hP rfl) (hD.sub [] (by decide) rfl) hS (Nat.le_of_ble_eq_true rfl) (Nat.le_of_ble_eq_true rfl) dX2_hasWay_24
  · refine lv_iload_n hx hb dX2_hasWay_4 rfl (lv_at hl 1 rfl) ?_
    refine lv_bipush (v := 20) hx hb dX2_hasWay_5 (by decide) ?_
    refine lv_icmp_ge (tgt := 23) hx hb dX2_hasWay_7 (by decide) (fun h2 => ?_) (fun h2 => ?_)
    · refine lv_iconst (v := 0) hx hb dX2_hasWay_23 (by decide) ?_
      exact ret 0 (fun _ => 0, fun _ _ => 0) _ _ _ _ _ _ rfl rfl (bw_subP (isC := []) hP rfl) (hD.sub [] (by decide) rfl) hS (Nat.le_of_ble_eq_true rfl) (Nat.le_of_ble_eq_true rfl) dX2_hasWay_24
    · refine lv_aload_n hx hb dX2_hasWay_10 rfl (lv_at hl 0 rfl) ?_
      refine r_get F hK hP 0 8 rfl rfl in_X2 (by decide) k_169 rfl dX2_hasWay_11 ?_
      refine lv_iload_n hx hb dX2_hasWay_14 rfl (lv_at hl 1 rfl) ?_
      refine r_iald (v := 0) F hK hP 1 0 rfl rfl (bw_in20 h1 h2) dX2_hasWay_15 rfl ?_
      refine lv_if_le (tgt := 23) hx hb dX2_hasWay_16 (by decide) (fun _ => ?_) (fun h9 => absurd (by decide) h9)
      refine lv_iconst (v := 0) hx hb dX2_hasWay_23 (by decide) ?_
      exact ret 0 (fun _ => 0, fun _ _ => 0) _ _ _ _ _ _ rfl rfl (bw_subP (isC := []) hP rfl) (hD.sub [] (by decide) rfl) hS (Nat.le_of_ble_eq_true rfl) (Nat.le_of_ble_eq_true rfl) dX2_hasWay_24
theorem dX8_isPair_0 : decode cX8_isPair 0 = .ok (.aload_n 0, 1) := by decide +kernel
theorem dX8_isPair_1 : decode cX8_isPair 1 = .ok (.getfield 31, 3) := by decide +kernel
theorem dX8_isPair_4 : decode cX8_isPair 4 = .ok (.iload_n 1, 1) := by decide +kernel
theorem dX8_isPair_5 : decode cX8_isPair 5 = .ok (.invokevirtual 236, 3) := by decide +kernel
theorem k_883 : Cond.methodLink RX8 236 yX2_hasLine ∈ bw_T := bw_m 883 (by decide +kernel) rfl
theorem kv_X2_hasLine : bw_KV RX2 yX2_hasLine (Cond.code yX2_hasLine cX2_hasLine 2 (some .boolean)) := ⟨bw_m 884 (by decide +kernel) rfl, bw_m 885 (by decide +kernel) rfl, bw_m 96 (by decide +kernel) rfl, bw_m 886 (by decide +kernel) rfl⟩
theorem dX8_isPair_8 : decode cX8_isPair 8 = .ok (.ifCond .eq 23, 3) := by decide +kernel
theorem dX8_isPair_31 : decode cX8_isPair 31 = .ok (.iconst 0, 1) := by decide +kernel
theorem dX8_isPair_32 : decode cX8_isPair 32 = .ok (.ireturn, 1) := by decide +kernel
abbrev rm_X8_isPair : Room := { frames := 1, cells := 0, slots := 0, locals := 21 }
set_option maxRecDepth 100000 in
set_option maxHeartbeats 4000000 in
theorem c_X8_isPair {l : Launch} {E : (Nat → Prop) → State → Prop} (hO : bw_Ok E) {G : va_G} {cI cB cJ cN cW : ClassId} (b : Nat) (q : Nat → Nat) (x : Int32) (y : Int32) : bw_Ci (S := bw_U) l yX8_isPair (bw_ws (Cond.code yX8_isPair cX8_isPair 3 (some .boolean))) rm_X8_isPair E G (bw_kt cI cB cJ cN cW) [.ref b, .int x, .int y] [(b, .inr (8, [.int 0, .int 0, .ref (q 0), .ref (q 1), .ref (q 2), .ref (q 3), .ref (q 4), .ref (q 5), .ref (q 6), .ref (q 7), .ref (q 8), .ref (q 9), .ref (q 10), .ref (q 11)])), ((q 2), .inr (2, [.int 0, .ref (q 40), .ref (q 41), .ref (q 42), .ref (q 43), .ref (q 44), .ref (q 45), .ref (q 46), .ref (q 47)]))] (fun r _ => r = 0) (fun _ => [(b, .inr (8, [.int 0, .int 0, .ref (q 0), .ref (q 1), .ref (q 2), .ref (q 3), .ref (q 4), .ref (q 5), .ref (q 6), .ref (q 7), .ref (q 8), .ref (q 9), .ref (q 10), .ref (q 11)]))]) := by
  refine bw_Ci.of (cc := cX8_isPair) (maxL := 3) (ty := .boolean) (by decide) rfl (Nat.le_of_ble_eq_true rfl) ?_
  intro p e s m below meth c A Q hx hb hml hts hown hin hK hA hS hP hD hE ret ls hl
  have F : CallFix p m c cX8_isPair 3 s ([.ref b, .int x, .int y] : List Value).toArray bw_T RX8 := ⟨hx, hb, hml, hown, fun w h => hts w (List.mem_cons_of_mem _ h)⟩
  have hl : lv_has ls 3 [(0, .ref b), (1, .int x), (2, .int y)] := hl
  refine lv_aload_n hx hb dX8_isPair_0 rfl (lv_at hl 0 rfl) ?_
  refine r_get F hK hP 0 4 rfl rfl in_X8 (by decide) k_499 rfl dX8_isPair_1 ?_
  refine lv_iload_n hx hb dX8_isPair_4 rfl (lv_at hl 1 rfl) ?_
  refine r_callVi (As := [.int x]) (rest := []) (wr := [(b, .inr (8, [.int 0, .int 0, .ref (q 0), .ref (q 1), .ref (q 2), .ref (q 3), .ref (q 4), .ref (q 5), .ref (q 6), .ref (q 7), .ref (q 8), .ref (q 9), .ref (q 10), .ref (q 11)]))]) F hK hP hD hS hA hO hE (c_X2_hasLine hO (q 2) q x) k_883 kv_X2_hasLine 1 rfl (by decide +kernel) ⟨Nat.le_of_ble_eq_true rfl, Nat.le_of_ble_eq_true rfl⟩ [1] [0] rfl rfl (by decide) (by decide) (by decide) 0 2 rfl rfl rfl hl.1 rfl (Nat.le_of_ble_eq_true rfl) dX8_isPair_5 ⟨Nat.le_of_ble_eq_true rfl, Nat.le_of_ble_eq_true rfl⟩ (w1 := fun u1 => [(b, .inr (8, [.int 0, .int 0, .ref (q 0), .ref (q 1), .ref (q 2), .ref (q 3), .ref (q 4), .ref (q 5), .ref (q 6), .ref (q 7), .ref (q 8), .ref (q 9), .ref (q 10), .ref (q 11)]))]) (fun _ => rfl) (fun r2 u1 H locs hp hP hD hS => ?_)
  subst hp
  refine lv_if_eq (tgt := 31) hx hb dX8_isPair_8 (by decide) (fun _ => ?_) (fun h9 => absurd (by decide) h9)
  refine lv_iconst (v := 0) hx hb dX8_isPair_31 (by decide) ?_
  exact ret 0 (fun _ => 0, fun _ _ => 0) _ _ _ _ _ _ rfl rfl (bw_subP (isC := [0]) hP rfl) (hD.sub [0] (by decide) rfl) hS (Nat.le_of_ble_eq_true rfl) (Nat.le_of_ble_eq_true rfl) dX8_isPair_32
theorem dX8_run_0 : decode cX8_run 0 = .ok (.aload_n 0, 1) := by decide +kernel
theorem dX8_run_1 : decode cX8_run 1 = .ok (.invokevirtual 145, 3) := by decide +kernel
theorem dX8_run_4 : decode cX8_run 4 = .ok (.ifCond .eq 20, 3) := by decide +kernel
theorem dX8_run_24 : decode cX8_run 24 = .ok (.iconst (-1), 1) := by decide +kernel
theorem dX8_run_25 : decode cX8_run 25 = .ok (.ireturn, 1) := by decide +kernel
abbrev rm_X8_run : Room := { frames := 1, cells := 0, slots := 0, locals := 20 }
set_option maxRecDepth 100000 in
set_option maxHeartbeats 4000000 in
theorem c_X8_run {l : Launch} {E : (Nat → Prop) → State → Prop} (hO : bw_Ok E) {G : va_G} {cI cB cJ cN cW : ClassId} (b : Nat) (q : Nat → Nat) : bw_Ci (S := bw_U) l yX8_run (bw_ws (Cond.code yX8_run cX8_run 1 (some .int))) rm_X8_run E G (bw_kt cI cB cJ cN cW) [.ref b] [(b, .inr (8, [.int 0, .int 0, .ref (q 0), .ref (q 1), .ref (q 2), .ref (q 3), .ref (q 4), .ref (q 5), .ref (q 6), .ref (q 7), .ref (q 8), .ref (q 9), .ref (q 10), .ref (q 11)]))] (fun r _ => r = -1) (fun _ => []) := by
  refine bw_Ci.of (cc := cX8_run) (maxL := 1) (ty := .int) (by decide) rfl (Nat.le_of_ble_eq_true rfl) ?_
  intro p e s m below meth c A Q hx hb hml hts hown hin hK hA hS hP hD hE ret ls hl
  have F : CallFix p m c cX8_run 1 s ([.ref b] : List Value).toArray bw_T RX8 := ⟨hx, hb, hml, hown, fun w h => hts w (List.mem_cons_of_mem _ h)⟩
  have hl : lv_has ls 1 [(0, .ref b)] := hl
  refine lv_aload_n hx hb dX8_run_0 rfl (lv_at hl 0 rfl) ?_
  refine r_callVi (As := []) (rest := []) (wr := []) F hK hP hD hS hA hO hE (c_X8_isLoaded hO b q) k_683 kv_X8_isLoaded 0 rfl (by decide +kernel) ⟨Nat.le_of_ble_eq_true rfl, Nat.le_of_ble_eq_true rfl⟩ [0] [] rfl rfl (by decide) (by decide) (by decide) 0 8 rfl rfl rfl hl.1 rfl (Nat.le_of_ble_eq_true rfl) dX8_run_1 ⟨Nat.le_of_ble_eq_true rfl, Nat.le_of_ble_eq_true rfl⟩ (w1 := fun u1 => []) (fun _ => rfl) (fun r2 u1 H locs hp hP hD hS => ?_)
  subst hp
  refine lv_if_eq (tgt := 24) hx hb dX8_run_4 (by decide) (fun _ => ?_) (fun h9 => absurd (by decide) h9)
  refine lv_iconst (v := (-1)) hx hb dX8_run_24 (by decide) ?_
  exact ret (-1) (fun _ => 0, fun _ _ => 0) _ _ _ _ _ _ rfl rfl (bw_subP (isC := []) hP rfl) (hD.sub [] (by decide) rfl) hS (Nat.le_of_ble_eq_true rfl) (Nat.le_of_ble_eq_true rfl) dX8_run_25
theorem dX8_burnt_0 : decode cX8_burnt 0 = .ok (.aload_n 0, 1) := by decide +kernel
theorem dX8_burnt_1 : decode cX8_burnt 1 = .ok (.invokevirtual 145, 3) := by decide +kernel
theorem dX8_burnt_4 : decode cX8_burnt 4 = .ok (.ifCond .eq 17, 3) := by decide +kernel
theorem dX8_burnt_21 : decode cX8_burnt 21 = .ok (.iconst (-1), 1) := by decide +kernel
theorem dX8_burnt_22 : decode cX8_burnt 22 = .ok (.ireturn, 1) := by decide +kernel
abbrev rm_X8_burnt : Room := { frames := 1, cells := 0, slots := 0, locals := 20 }
set_option maxRecDepth 100000 in
set_option maxHeartbeats 4000000 in
theorem c_X8_burnt {l : Launch} {E : (Nat → Prop) → State → Prop} (hO : bw_Ok E) {G : va_G} {cI cB cJ cN cW : ClassId} (b : Nat) (q : Nat → Nat) : bw_Ci (S := bw_U) l yX8_burnt (bw_ws (Cond.code yX8_burnt cX8_burnt 1 (some .int))) rm_X8_burnt E G (bw_kt cI cB cJ cN cW) [.ref b] [(b, .inr (8, [.int 0, .int 0, .ref (q 0), .ref (q 1), .ref (q 2), .ref (q 3), .ref (q 4), .ref (q 5), .ref (q 6), .ref (q 7), .ref (q 8), .ref (q 9), .ref (q 10), .ref (q 11)]))] (fun r _ => r = -1) (fun _ => []) := by
  refine bw_Ci.of (cc := cX8_burnt) (maxL := 1) (ty := .int) (by decide) rfl (Nat.le_of_ble_eq_true rfl) ?_
  intro p e s m below meth c A Q hx hb hml hts hown hin hK hA hS hP hD hE ret ls hl
  have F : CallFix p m c cX8_burnt 1 s ([.ref b] : List Value).toArray bw_T RX8 := ⟨hx, hb, hml, hown, fun w h => hts w (List.mem_cons_of_mem _ h)⟩
  have hl : lv_has ls 1 [(0, .ref b)] := hl
  refine lv_aload_n hx hb dX8_burnt_0 rfl (lv_at hl 0 rfl) ?_
  refine r_callVi (As := []) (rest := []) (wr := []) F hK hP hD hS hA hO hE (c_X8_isLoaded hO b q) k_683 kv_X8_isLoaded 0 rfl (by decide +kernel) ⟨Nat.le_of_ble_eq_true rfl, Nat.le_of_ble_eq_true rfl⟩ [0] [] rfl rfl (by decide) (by decide) (by decide) 0 8 rfl rfl rfl hl.1 rfl (Nat.le_of_ble_eq_true rfl) dX8_burnt_1 ⟨Nat.le_of_ble_eq_true rfl, Nat.le_of_ble_eq_true rfl⟩ (w1 := fun u1 => []) (fun _ => rfl) (fun r2 u1 H locs hp hP hD hS => ?_)
  subst hp
  refine lv_if_eq (tgt := 21) hx hb dX8_burnt_4 (by decide) (fun _ => ?_) (fun h9 => absurd (by decide) h9)
  refine lv_iconst (v := (-1)) hx hb dX8_burnt_21 (by decide) ?_
  exact ret (-1) (fun _ => 0, fun _ _ => 0) _ _ _ _ _ _ rfl rfl (bw_subP (isC := []) hP rfl) (hD.sub [] (by decide) rfl) hS (Nat.le_of_ble_eq_true rfl) (Nat.le_of_ble_eq_true rfl) dX8_burnt_22
theorem dX8_wanted_0 : decode cX8_wanted 0 = .ok (.aload_n 0, 1) := by decide +kernel
theorem dX8_wanted_1 : decode cX8_wanted 1 = .ok (.invokevirtual 145, 3) := by decide +kernel
theorem dX8_wanted_4 : decode cX8_wanted 4 = .ok (.ifCond .ne 5, 3) := by decide +kernel
theorem dX8_wanted_7 : decode cX8_wanted 7 = .ok (.iconst (-1), 1) := by decide +kernel
theorem dX8_wanted_8 : decode cX8_wanted 8 = .ok (.ireturn, 1) := by decide +kernel
abbrev rm_X8_wanted : Room := { frames := 1, cells := 0, slots := 0, locals := 20 }
set_option maxRecDepth 100000 in
set_option maxHeartbeats 4000000 in
theorem c_X8_wanted {l : Launch} {E : (Nat → Prop) → State → Prop} (hO : bw_Ok E) {G : va_G} {cI cB cJ cN cW : ClassId} (b : Nat) (q : Nat → Nat) : bw_Ci (S := bw_U) l yX8_wanted (bw_ws (Cond.code yX8_wanted cX8_wanted 3 (some .int))) rm_X8_wanted E G (bw_kt cI cB cJ cN cW) [.ref b] [(b, .inr (8, [.int 0, .int 0, .ref (q 0), .ref (q 1), .ref (q 2), .ref (q 3), .ref (q 4), .ref (q 5), .ref (q 6), .ref (q 7), .ref (q 8), .ref (q 9), .ref (q 10), .ref (q 11)]))] (fun r _ => r = -1) (fun _ => []) := by
  refine bw_Ci.of (cc := cX8_wanted) (maxL := 3) (ty := .int) (by decide) rfl (Nat.le_of_ble_eq_true rfl) ?_
  intro p e s m below meth c A Q hx hb hml hts hown hin hK hA hS hP hD hE ret ls hl
  have F : CallFix p m c cX8_wanted 3 s ([.ref b] : List Value).toArray bw_T RX8 := ⟨hx, hb, hml, hown, fun w h => hts w (List.mem_cons_of_mem _ h)⟩
  have hl : lv_has ls 3 [(0, .ref b)] := hl
  refine lv_aload_n hx hb dX8_wanted_0 rfl (lv_at hl 0 rfl) ?_
  refine r_callVi (As := []) (rest := []) (wr := []) F hK hP hD hS hA hO hE (c_X8_isLoaded hO b q) k_683 kv_X8_isLoaded 0 rfl (by decide +kernel) ⟨Nat.le_of_ble_eq_true rfl, Nat.le_of_ble_eq_true rfl⟩ [0] [] rfl rfl (by decide) (by decide) (by decide) 0 8 rfl rfl rfl hl.1 rfl (Nat.le_of_ble_eq_true rfl) dX8_wanted_1 ⟨Nat.le_of_ble_eq_true rfl, Nat.le_of_ble_eq_true rfl⟩ (w1 := fun u1 => []) (fun _ => rfl) (fun r2 u1 H locs hp hP hD hS => ?_)
  subst hp
  refine lv_if_ne (tgt := 9) hx hb dX8_wanted_4 (by decide) (fun h9 => absurd (by decide) h9) (fun _ => ?_)
  refine lv_iconst (v := (-1)) hx hb dX8_wanted_7 (by decide) ?_
  exact ret (-1) (fun _ => 0, fun _ _ => 0) _ _ _ _ _ _ rfl rfl (bw_subP (isC := []) hP rfl) (hD.sub [] (by decide) rfl) hS (Nat.le_of_ble_eq_true rfl) (Nat.le_of_ble_eq_true rfl) dX8_wanted_8
theorem dX8_come_0 : decode cX8_come 0 = .ok (.aload_n 0, 1) := by decide +kernel
theorem dX8_come_1 : decode cX8_come 1 = .ok (.invokevirtual 145, 3) := by decide +kernel
theorem dX8_come_4 : decode cX8_come 4 = .ok (.ifCond .eq 14, 3) := by decide +kernel
theorem dX8_come_18 : decode cX8_come 18 = .ok (.iconst (-1), 1) := by decide +kernel
theorem dX8_come_19 : decode cX8_come 19 = .ok (.ireturn, 1) := by decide +kernel
abbrev rm_X8_come : Room := { frames := 1, cells := 0, slots := 0, locals := 20 }
set_option maxRecDepth 100000 in
set_option maxHeartbeats 4000000 in
theorem c_X8_come {l : Launch} {E : (Nat → Prop) → State → Prop} (hO : bw_Ok E) {G : va_G} {cI cB cJ cN cW : ClassId} (b : Nat) (q : Nat → Nat) : bw_Ci (S := bw_U) l yX8_come (bw_ws (Cond.code yX8_come cX8_come 1 (some .int))) rm_X8_come E G (bw_kt cI cB cJ cN cW) [.ref b] [(b, .inr (8, [.int 0, .int 0, .ref (q 0), .ref (q 1), .ref (q 2), .ref (q 3), .ref (q 4), .ref (q 5), .ref (q 6), .ref (q 7), .ref (q 8), .ref (q 9), .ref (q 10), .ref (q 11)]))] (fun r _ => r = -1) (fun _ => []) := by
  refine bw_Ci.of (cc := cX8_come) (maxL := 1) (ty := .int) (by decide) rfl (Nat.le_of_ble_eq_true rfl) ?_
  intro p e s m below meth c A Q hx hb hml hts hown hin hK hA hS hP hD hE ret ls hl
  have F : CallFix p m c cX8_come 1 s ([.ref b] : List Value).toArray bw_T RX8 := ⟨hx, hb, hml, hown, fun w h => hts w (List.mem_cons_of_mem _ h)⟩
  have hl : lv_has ls 1 [(0, .ref b)] := hl
  refine lv_aload_n hx hb dX8_come_0 rfl (lv_at hl 0 rfl) ?_
  refine r_callVi (As := []) (rest := []) (wr := []) F hK hP hD hS hA hO hE (c_X8_isLoaded hO b q) k_683 kv_X8_isLoaded 0 rfl (by decide +kernel) ⟨Nat.le_of_ble_eq_true rfl, Nat.le_of_ble_eq_true rfl⟩ [0] [] rfl rfl (by decide) (by decide) (by decide) 0 8 rfl rfl rfl hl.1 rfl (Nat.le_of_ble_eq_true rfl) dX8_come_1 ⟨Nat.le_of_ble_eq_true rfl, Nat.le_of_ble_eq_true rfl⟩ (w1 := fun u1 => []) (fun _ => rfl) (fun r2 u1 H locs hp hP hD hS => ?_)
  subst hp
  refine lv_if_eq (tgt := 18) hx hb dX8_come_4 (by decide) (fun _ => ?_) (fun h9 => absurd (by decide) h9)
  refine lv_iconst (v := (-1)) hx hb dX8_come_18 (by decide) ?_
  exact ret (-1) (fun _ => 0, fun _ _ => 0) _ _ _ _ _ _ rfl rfl (bw_subP (isC := []) hP rfl) (hD.sub [] (by decide) rfl) hS (Nat.le_of_ble_eq_true rfl) (Nat.le_of_ble_eq_true rfl) dX8_come_19
theorem dX8_even_0 : decode cX8_even 0 = .ok (.aload_n 0, 1) := by decide +kernel
theorem dX8_even_1 : decode cX8_even 1 = .ok (.invokevirtual 145, 3) := by decide +kernel
theorem dX8_even_4 : decode cX8_even 4 = .ok (.ifCond .ne 5, 3) := by decide +kernel
theorem dX8_even_7 : decode cX8_even 7 = .ok (.iconst (-1), 1) := by decide +kernel
theorem dX8_even_8 : decode cX8_even 8 = .ok (.ireturn, 1) := by decide +kernel
abbrev rm_X8_even : Room := { frames := 1, cells := 0, slots := 0, locals := 20 }
set_option maxRecDepth 100000 in
set_option maxHeartbeats 4000000 in
theorem c_X8_even {l : Launch} {E : (Nat → Prop) → State → Prop} (hO : bw_Ok E) {G : va_G} {cI cB cJ cN cW : ClassId} (b : Nat) (q : Nat → Nat) : bw_Ci (S := bw_U) l yX8_even (bw_ws (Cond.code yX8_even cX8_even 1 (some .int))) rm_X8_even E G (bw_kt cI cB cJ cN cW) [.ref b] [(b, .inr (8, [.int 0, .int 0, .ref (q 0), .ref (q 1), .ref (q 2), .ref (q 3), .ref (q 4), .ref (q 5), .ref (q 6), .ref (q 7), .ref (q 8), .ref (q 9), .ref (q 10), .ref (q 11)]))] (fun r _ => r = -1) (fun _ => []) := by
  refine bw_Ci.of (cc := cX8_even) (maxL := 1) (ty := .int) (by decide) rfl (Nat.le_of_ble_eq_true rfl) ?_
  intro p e s m below meth c A Q hx hb hml hts hown hin hK hA hS hP hD hE ret ls hl
  have F : CallFix p m c cX8_even 1 s ([.ref b] : List Value).toArray bw_T RX8 := ⟨hx, hb, hml, hown, fun w h => hts w (List.mem_cons_of_mem _ h)⟩
  have hl : lv_has ls 1 [(0, .ref b)] := hl
  refine lv_aload_n hx hb dX8_even_0 rfl (lv_at hl 0 rfl) ?_
  refine r_callVi (As := []) (rest := []) (wr := []) F hK hP hD hS hA hO hE (c_X8_isLoaded hO b q) k_683 kv_X8_isLoaded 0 rfl (by decide +kernel) ⟨Nat.le_of_ble_eq_true rfl, Nat.le_of_ble_eq_true rfl⟩ [0] [] rfl rfl (by decide) (by decide) (by decide) 0 8 rfl rfl rfl hl.1 rfl (Nat.le_of_ble_eq_true rfl) dX8_even_1 ⟨Nat.le_of_ble_eq_true rfl, Nat.le_of_ble_eq_true rfl⟩ (w1 := fun u1 => []) (fun _ => rfl) (fun r2 u1 H locs hp hP hD hS => ?_)
  subst hp
  refine lv_if_ne (tgt := 9) hx hb dX8_even_4 (by decide) (fun h9 => absurd (by decide) h9) (fun _ => ?_)
  refine lv_iconst (v := (-1)) hx hb dX8_even_7 (by decide) ?_
  exact ret (-1) (fun _ => 0, fun _ _ => 0) _ _ _ _ _ _ rfl rfl (bw_subP (isC := []) hP rfl) (hD.sub [] (by decide) rfl) hS (Nat.le_of_ble_eq_true rfl) (Nat.le_of_ble_eq_true rfl) dX8_even_8
theorem dX8_trails_0 : decode cX8_trails 0 = .ok (.aload_n 0, 1) := by decide +kernel
theorem dX8_trails_1 : decode cX8_trails 1 = .ok (.invokevirtual 145, 3) := by decide +kernel
theorem dX8_trails_4 : decode cX8_trails 4 = .ok (.ifCond .ne 5, 3) := by decide +kernel
theorem dX8_trails_7 : decode cX8_trails 7 = .ok (.iconst (-1), 1) := by decide +kernel
theorem dX8_trails_8 : decode cX8_trails 8 = .ok (.ireturn, 1) := by decide +kernel
abbrev rm_X8_trails : Room := { frames := 1, cells := 0, slots := 0, locals := 20 }
set_option maxRecDepth 100000 in
set_option maxHeartbeats 4000000 in
theorem c_X8_trails {l : Launch} {E : (Nat → Prop) → State → Prop} (hO : bw_Ok E) {G : va_G} {cI cB cJ cN cW : ClassId} (b : Nat) (q : Nat → Nat) : bw_Ci (S := bw_U) l yX8_trails (bw_ws (Cond.code yX8_trails cX8_trails 1 (some .int))) rm_X8_trails E G (bw_kt cI cB cJ cN cW) [.ref b] [(b, .inr (8, [.int 0, .int 0, .ref (q 0), .ref (q 1), .ref (q 2), .ref (q 3), .ref (q 4), .ref (q 5), .ref (q 6), .ref (q 7), .ref (q 8), .ref (q 9), .ref (q 10), .ref (q 11)]))] (fun r _ => r = -1) (fun _ => []) := by
  refine bw_Ci.of (cc := cX8_trails) (maxL := 1) (ty := .int) (by decide) rfl (Nat.le_of_ble_eq_true rfl) ?_
  intro p e s m below meth c A Q hx hb hml hts hown hin hK hA hS hP hD hE ret ls hl
  have F : CallFix p m c cX8_trails 1 s ([.ref b] : List Value).toArray bw_T RX8 := ⟨hx, hb, hml, hown, fun w h => hts w (List.mem_cons_of_mem _ h)⟩
  have hl : lv_has ls 1 [(0, .ref b)] := hl
  refine lv_aload_n hx hb dX8_trails_0 rfl (lv_at hl 0 rfl) ?_
  refine r_callVi (As := []) (rest := []) (wr := []) F hK hP hD hS hA hO hE (c_X8_isLoaded hO b q) k_683 kv_X8_isLoaded 0 rfl (by decide +kernel) ⟨Nat.le_of_ble_eq_true rfl, Nat.le_of_ble_eq_true rfl⟩ [0] [] rfl rfl (by decide) (by decide) (by decide) 0 8 rfl rfl rfl hl.1 rfl (Nat.le_of_ble_eq_true rfl) dX8_trails_1 ⟨Nat.le_of_ble_eq_true rfl, Nat.le_of_ble_eq_true rfl⟩ (w1 := fun u1 => []) (fun _ => rfl) (fun r2 u1 H locs hp hP hD hS => ?_)
  subst hp
  refine lv_if_ne (tgt := 9) hx hb dX8_trails_4 (by decide) (fun h9 => absurd (by decide) h9) (fun _ => ?_)
  refine lv_iconst (v := (-1)) hx hb dX8_trails_7 (by decide) ?_
  exact ret (-1) (fun _ => 0, fun _ _ => 0) _ _ _ _ _ _ rfl rfl (bw_subP (isC := []) hP rfl) (hD.sub [] (by decide) rfl) hS (Nat.le_of_ble_eq_true rfl) (Nat.le_of_ble_eq_true rfl) dX8_trails_8
theorem dX8_keys_0 : decode cX8_keys 0 = .ok (.aload_n 0, 1) := by decide +kernel
theorem dX8_keys_1 : decode cX8_keys 1 = .ok (.invokevirtual 145, 3) := by decide +kernel
theorem dX8_keys_4 : decode cX8_keys 4 = .ok (.ifCond .eq 13, 3) := by decide +kernel
theorem dX8_keys_17 : decode cX8_keys 17 = .ok (.iconst (-1), 1) := by decide +kernel
theorem dX8_keys_18 : decode cX8_keys 18 = .ok (.ireturn, 1) := by decide +kernel
abbrev rm_X8_keys : Room := { frames := 1, cells := 0, slots := 0, locals := 20 }
set_option maxRecDepth 100000 in
set_option maxHeartbeats 4000000 in
theorem c_X8_keys {l : Launch} {E : (Nat → Prop) → State → Prop} (hO : bw_Ok E) {G : va_G} {cI cB cJ cN cW : ClassId} (b : Nat) (q : Nat → Nat) : bw_Ci (S := bw_U) l yX8_keys (bw_ws (Cond.code yX8_keys cX8_keys 1 (some .int))) rm_X8_keys E G (bw_kt cI cB cJ cN cW) [.ref b] [(b, .inr (8, [.int 0, .int 0, .ref (q 0), .ref (q 1), .ref (q 2), .ref (q 3), .ref (q 4), .ref (q 5), .ref (q 6), .ref (q 7), .ref (q 8), .ref (q 9), .ref (q 10), .ref (q 11)]))] (fun r _ => r = -1) (fun _ => []) := by
  refine bw_Ci.of (cc := cX8_keys) (maxL := 1) (ty := .int) (by decide) rfl (Nat.le_of_ble_eq_true rfl) ?_
  intro p e s m below meth c A Q hx hb hml hts hown hin hK hA hS hP hD hE ret ls hl
  have F : CallFix p m c cX8_keys 1 s ([.ref b] : List Value).toArray bw_T RX8 := ⟨hx, hb, hml, hown, fun w h => hts w (List.mem_cons_of_mem _ h)⟩
  have hl : lv_has ls 1 [(0, .ref b)] := hl
  refine lv_aload_n hx hb dX8_keys_0 rfl (lv_at hl 0 rfl) ?_
  refine r_callVi (As := []) (rest := []) (wr := []) F hK hP hD hS hA hO hE (c_X8_isLoaded hO b q) k_683 kv_X8_isLoaded 0 rfl (by decide +kernel) ⟨Nat.le_of_ble_eq_true rfl, Nat.le_of_ble_eq_true rfl⟩ [0] [] rfl rfl (by decide) (by decide) (by decide) 0 8 rfl rfl rfl hl.1 rfl (Nat.le_of_ble_eq_true rfl) dX8_keys_1 ⟨Nat.le_of_ble_eq_true rfl, Nat.le_of_ble_eq_true rfl⟩ (w1 := fun u1 => []) (fun _ => rfl) (fun r2 u1 H locs hp hP hD hS => ?_)
  subst hp
  refine lv_if_eq (tgt := 17) hx hb dX8_keys_4 (by decide) (fun _ => ?_) (fun h9 => absurd (by decide) h9)
  refine lv_iconst (v := (-1)) hx hb dX8_keys_17 (by decide) ?_
  exact ret (-1) (fun _ => 0, fun _ _ => 0) _ _ _ _ _ _ rfl rfl (bw_subP (isC := []) hP rfl) (hD.sub [] (by decide) rfl) hS (Nat.le_of_ble_eq_true rfl) (Nat.le_of_ble_eq_true rfl) dX8_keys_18
theorem dX8_steps_0 : decode cX8_steps 0 = .ok (.aload_n 0, 1) := by decide +kernel
theorem dX8_steps_1 : decode cX8_steps 1 = .ok (.getfield 13, 3) := by decide +kernel
theorem dX8_steps_4 : decode cX8_steps 4 = .ok (.ifCond .ne 9, 3) := by decide +kernel
theorem dX8_steps_7 : decode cX8_steps 7 = .ok (.aload_n 0, 1) := by decide +kernel
theorem dX8_steps_8 : decode cX8_steps 8 = .ok (.iconst 1, 1) := by decide +kernel
theorem dX8_steps_9 : decode cX8_steps 9 = .ok (.invokevirtual 92, 3) := by decide +kernel
theorem k_550 : Cond.methodLink RX8 92 yX8_refuse ∈ bw_T := bw_m 550 (by decide +kernel) rfl
theorem kv_X8_refuse : bw_KV RX8 yX8_refuse (Cond.code yX8_refuse cX8_refuse 2 (some .int)) := ⟨bw_m 552 (by decide +kernel) rfl, bw_m 1 (by decide +kernel) rfl, bw_m 94 (by decide +kernel) rfl, bw_m 553 (by decide +kernel) rfl⟩
theorem dX8_steps_12 : decode cX8_steps 12 = .ok (.ireturn, 1) := by decide +kernel
abbrev rm_X8_steps : Room := { frames := 1, cells := 0, slots := 0, locals := 21 }
set_option maxRecDepth 100000 in
set_option maxHeartbeats 4000000 in
theorem c_X8_steps {l : Launch} {E : (Nat → Prop) → State → Prop} (hO : bw_Ok E) {G : va_G} {cI cB cJ cN cW : ClassId} (b : Nat) (q : Nat → Nat) (x : Int32) : bw_Ci (S := bw_U) l yX8_steps (bw_ws (Cond.code yX8_steps cX8_steps 2 (some .int))) rm_X8_steps E G (bw_kt cI cB cJ cN cW) [.ref b, .int x] [(b, .inr (8, [.int 0, .int 0, .ref (q 0), .ref (q 1), .ref (q 2), .ref (q 3), .ref (q 4), .ref (q 5), .ref (q 6), .ref (q 7), .ref (q 8), .ref (q 9), .ref (q 10), .ref (q 11)]))] (fun r _ => r = -1) (fun _ => []) := by
  refine bw_Ci.of (cc := cX8_steps) (maxL := 2) (ty := .int) (by decide) rfl (Nat.le_of_ble_eq_true rfl) ?_
  intro p e s m below meth c A Q hx hb hml hts hown hin hK hA hS hP hD hE ret ls hl
  have F : CallFix p m c cX8_steps 2 s ([.ref b, .int x] : List Value).toArray bw_T RX8 := ⟨hx, hb, hml, hown, fun w h => hts w (List.mem_cons_of_mem _ h)⟩
  have hl : lv_has ls 2 [(0, .ref b), (1, .int x)] := hl
  refine lv_aload_n hx hb dX8_steps_0 rfl (lv_at hl 0 rfl) ?_
  refine r_get F hK hP 0 1 rfl rfl in_X8 (by decide) k_496 rfl dX8_steps_1 ?_
  refine lv_if_ne (tgt := 13) hx hb dX8_steps_4 (by decide) (fun h9 => absurd (by decide) h9) (fun _ => ?_)
  refine lv_aload_n hx hb dX8_steps_7 rfl (lv_at hl 0 rfl) ?_
  refine lv_iconst (v := 1) hx hb dX8_steps_8 (by decide) ?_
  refine r_callVi (As := [.int 1]) (rest := []) (wr := []) F hK hP hD hS hA hO hE (c_X8_refuse hO b q 1) k_550 kv_X8_refuse 1 rfl (by decide +kernel) ⟨Nat.le_of_ble_eq_true rfl, Nat.le_of_ble_eq_true rfl⟩ [0] [] rfl rfl (by decide) (by decide) (by decide) 0 8 rfl rfl rfl hl.1 rfl (Nat.le_of_ble_eq_true rfl) dX8_steps_9 ⟨Nat.le_of_ble_eq_true rfl, Nat.le_of_ble_eq_true rfl⟩ (w1 := fun u1 => []) (fun _ => rfl) (fun r2 u1 H locs hp hP hD hS => ?_)
  subst hp
  exact ret (-1) (fun _ => 0, fun _ _ => 0) _ _ _ _ _ _ rfl rfl (bw_subP (isC := []) hP rfl) (hD.sub [] (by decide) rfl) hS (Nat.le_of_ble_eq_true rfl) (Nat.le_of_ble_eq_true rfl) dX8_steps_12
theorem dX8_now_0 : decode cX8_now 0 = .ok (.aload_n 0, 1) := by decide +kernel
theorem dX8_now_1 : decode cX8_now 1 = .ok (.getfield 13, 3) := by decide +kernel
theorem dX8_now_4 : decode cX8_now 4 = .ok (.ifCond .ne 9, 3) := by decide +kernel
theorem dX8_now_7 : decode cX8_now 7 = .ok (.aload_n 0, 1) := by decide +kernel
theorem dX8_now_8 : decode cX8_now 8 = .ok (.iconst 1, 1) := by decide +kernel
theorem dX8_now_9 : decode cX8_now 9 = .ok (.invokevirtual 92, 3) := by decide +kernel
theorem dX8_now_12 : decode cX8_now 12 = .ok (.ireturn, 1) := by decide +kernel
abbrev rm_X8_now : Room := { frames := 1, cells := 0, slots := 0, locals := 21 }
set_option maxRecDepth 100000 in
set_option maxHeartbeats 4000000 in
theorem c_X8_now {l : Launch} {E : (Nat → Prop) → State → Prop} (hO : bw_Ok E) {G : va_G} {cI cB cJ cN cW : ClassId} (b : Nat) (q : Nat → Nat) (x : Int32) : bw_Ci (S := bw_U) l yX8_now (bw_ws (Cond.code yX8_now cX8_now 2 (some .int))) rm_X8_now E G (bw_kt cI cB cJ cN cW) [.ref b, .int x] [(b, .inr (8, [.int 0, .int 0, .ref (q 0), .ref (q 1), .ref (q 2), .ref (q 3), .ref (q 4), .ref (q 5), .ref (q 6), .ref (q 7), .ref (q 8), .ref (q 9), .ref (q 10), .ref (q 11)]))] (fun r _ => r = -1) (fun _ => []) := by
  refine bw_Ci.of (cc := cX8_now) (maxL := 2) (ty := .int) (by decide) rfl (Nat.le_of_ble_eq_true rfl) ?_
  intro p e s m below meth c A Q hx hb hml hts hown hin hK hA hS hP hD hE ret ls hl
  have F : CallFix p m c cX8_now 2 s ([.ref b, .int x] : List Value).toArray bw_T RX8 := ⟨hx, hb, hml, hown, fun w h => hts w (List.mem_cons_of_mem _ h)⟩
  have hl : lv_has ls 2 [(0, .ref b), (1, .int x)] := hl
  refine lv_aload_n hx hb dX8_now_0 rfl (lv_at hl 0 rfl) ?_
  refine r_get F hK hP 0 1 rfl rfl in_X8 (by decide) k_496 rfl dX8_now_1 ?_
  refine lv_if_ne (tgt := 13) hx hb dX8_now_4 (by decide) (fun h9 => absurd (by decide) h9) (fun _ => ?_)
  refine lv_aload_n hx hb dX8_now_7 rfl (lv_at hl 0 rfl) ?_
  refine lv_iconst (v := 1) hx hb dX8_now_8 (by decide) ?_
  refine r_callVi (As := [.int 1]) (rest := []) (wr := []) F hK hP hD hS hA hO hE (c_X8_refuse hO b q 1) k_550 kv_X8_refuse 1 rfl (by decide +kernel) ⟨Nat.le_of_ble_eq_true rfl, Nat.le_of_ble_eq_true rfl⟩ [0] [] rfl rfl (by decide) (by decide) (by decide) 0 8 rfl rfl rfl hl.1 rfl (Nat.le_of_ble_eq_true rfl) dX8_now_9 ⟨Nat.le_of_ble_eq_true rfl, Nat.le_of_ble_eq_true rfl⟩ (w1 := fun u1 => []) (fun _ => rfl) (fun r2 u1 H locs hp hP hD hS => ?_)
  subst hp
  exact ret (-1) (fun _ => 0, fun _ _ => 0) _ _ _ _ _ _ rfl rfl (bw_subP (isC := []) hP rfl) (hD.sub [] (by decide) rfl) hS (Nat.le_of_ble_eq_true rfl) (Nat.le_of_ble_eq_true rfl) dX8_now_12
theorem dX8_counter_0 : decode cX8_counter 0 = .ok (.aload_n 0, 1) := by decide +kernel
theorem dX8_counter_1 : decode cX8_counter 1 = .ok (.getfield 13, 3) := by decide +kernel
theorem dX8_counter_4 : decode cX8_counter 4 = .ok (.ifCond .eq 12, 3) := by decide +kernel
theorem dX8_counter_16 : decode cX8_counter 16 = .ok (.aload_n 0, 1) := by decide +kernel
theorem dX8_counter_17 : decode cX8_counter 17 = .ok (.iconst 1, 1) := by decide +kernel
theorem dX8_counter_18 : decode cX8_counter 18 = .ok (.invokevirtual 92, 3) := by decide +kernel
theorem dX8_counter_21 : decode cX8_counter 21 = .ok (.ireturn, 1) := by decide +kernel
abbrev rm_X8_counter : Room := { frames := 1, cells := 0, slots := 0, locals := 21 }
set_option maxRecDepth 100000 in
set_option maxHeartbeats 4000000 in
theorem c_X8_counter {l : Launch} {E : (Nat → Prop) → State → Prop} (hO : bw_Ok E) {G : va_G} {cI cB cJ cN cW : ClassId} (b : Nat) (q : Nat → Nat) (x : Int32) : bw_Ci (S := bw_U) l yX8_counter (bw_ws (Cond.code yX8_counter cX8_counter 2 (some .int))) rm_X8_counter E G (bw_kt cI cB cJ cN cW) [.ref b, .int x] [(b, .inr (8, [.int 0, .int 0, .ref (q 0), .ref (q 1), .ref (q 2), .ref (q 3), .ref (q 4), .ref (q 5), .ref (q 6), .ref (q 7), .ref (q 8), .ref (q 9), .ref (q 10), .ref (q 11)]))] (fun r _ => r = -1) (fun _ => []) := by
  refine bw_Ci.of (cc := cX8_counter) (maxL := 2) (ty := .int) (by decide) rfl (Nat.le_of_ble_eq_true rfl) ?_
  intro p e s m below meth c A Q hx hb hml hts hown hin hK hA hS hP hD hE ret ls hl
  have F : CallFix p m c cX8_counter 2 s ([.ref b, .int x] : List Value).toArray bw_T RX8 := ⟨hx, hb, hml, hown, fun w h => hts w (List.mem_cons_of_mem _ h)⟩
  have hl : lv_has ls 2 [(0, .ref b), (1, .int x)] := hl
  refine lv_aload_n hx hb dX8_counter_0 rfl (lv_at hl 0 rfl) ?_
  refine r_get F hK hP 0 1 rfl rfl in_X8 (by decide) k_496 rfl dX8_counter_1 ?_
  refine lv_if_eq (tgt := 16) hx hb dX8_counter_4 (by decide) (fun _ => ?_) (fun h9 => absurd (by decide) h9)
  refine lv_aload_n hx hb dX8_counter_16 rfl (lv_at hl 0 rfl) ?_
  refine lv_iconst (v := 1) hx hb dX8_counter_17 (by decide) ?_
  refine r_callVi (As := [.int 1]) (rest := []) (wr := []) F hK hP hD hS hA hO hE (c_X8_refuse hO b q 1) k_550 kv_X8_refuse 1 rfl (by decide +kernel) ⟨Nat.le_of_ble_eq_true rfl, Nat.le_of_ble_eq_true rfl⟩ [0] [] rfl rfl (by decide) (by decide) (by decide) 0 8 rfl rfl rfl hl.1 rfl (Nat.le_of_ble_eq_true rfl) dX8_counter_18 ⟨Nat.le_of_ble_eq_true rfl, Nat.le_of_ble_eq_true rfl⟩ (w1 := fun u1 => []) (fun _ => rfl) (fun r2 u1 H locs hp hP hD hS => ?_)
  subst hp
  exact ret (-1) (fun _ => 0, fun _ _ => 0) _ _ _ _ _ _ rfl rfl (bw_subP (isC := []) hP rfl) (hD.sub [] (by decide) rfl) hS (Nat.le_of_ble_eq_true rfl) (Nat.le_of_ble_eq_true rfl) dX8_counter_21
theorem dX8_path_0 : decode cX8_path 0 = .ok (.aload_n 0, 1) := by decide +kernel
theorem dX8_path_1 : decode cX8_path 1 = .ok (.getfield 13, 3) := by decide +kernel
theorem dX8_path_4 : decode cX8_path 4 = .ok (.ifCond .eq 24, 3) := by decide +kernel
theorem dX8_path_28 : decode cX8_path 28 = .ok (.aload_n 0, 1) := by decide +kernel
theorem dX8_path_29 : decode cX8_path 29 = .ok (.iconst 1, 1) := by decide +kernel
theorem dX8_path_30 : decode cX8_path 30 = .ok (.invokevirtual 92, 3) := by decide +kernel
theorem dX8_path_33 : decode cX8_path 33 = .ok (.ireturn, 1) := by decide +kernel
abbrev rm_X8_path : Room := { frames := 1, cells := 0, slots := 0, locals := 21 }
set_option maxRecDepth 100000 in
set_option maxHeartbeats 4000000 in
theorem c_X8_path {l : Launch} {E : (Nat → Prop) → State → Prop} (hO : bw_Ok E) {G : va_G} {cI cB cJ cN cW : ClassId} (b : Nat) (q : Nat → Nat) (x : Int32) : bw_Ci (S := bw_U) l yX8_path (bw_ws (Cond.code yX8_path cX8_path 2 (some .int))) rm_X8_path E G (bw_kt cI cB cJ cN cW) [.ref b, .int x] [(b, .inr (8, [.int 0, .int 0, .ref (q 0), .ref (q 1), .ref (q 2), .ref (q 3), .ref (q 4), .ref (q 5), .ref (q 6), .ref (q 7), .ref (q 8), .ref (q 9), .ref (q 10), .ref (q 11)]))] (fun r _ => r = -1) (fun _ => []) := by
  refine bw_Ci.of (cc := cX8_path) (maxL := 2) (ty := .int) (by decide) rfl (Nat.le_of_ble_eq_true rfl) ?_
  intro p e s m below meth c A Q hx hb hml hts hown hin hK hA hS hP hD hE ret ls hl
  have F : CallFix p m c cX8_path 2 s ([.ref b, .int x] : List Value).toArray bw_T RX8 := ⟨hx, hb, hml, hown, fun w h => hts w (List.mem_cons_of_mem _ h)⟩
  have hl : lv_has ls 2 [(0, .ref b), (1, .int x)] := hl
  refine lv_aload_n hx hb dX8_path_0 rfl (lv_at hl 0 rfl) ?_
  refine r_get F hK hP 0 1 rfl rfl in_X8 (by decide) k_496 rfl dX8_path_1 ?_
  refine lv_if_eq (tgt := 28) hx hb dX8_path_4 (by decide) (fun _ => ?_) (fun h9 => absurd (by decide) h9)
  refine lv_aload_n hx hb dX8_path_28 rfl (lv_at hl 0 rfl) ?_
  refine lv_iconst (v := 1) hx hb dX8_path_29 (by decide) ?_
  refine r_callVi (As := [.int 1]) (rest := []) (wr := []) F hK hP hD hS hA hO hE (c_X8_refuse hO b q 1) k_550 kv_X8_refuse 1 rfl (by decide +kernel) ⟨Nat.le_of_ble_eq_true rfl, Nat.le_of_ble_eq_true rfl⟩ [0] [] rfl rfl (by decide) (by decide) (by decide) 0 8 rfl rfl rfl hl.1 rfl (Nat.le_of_ble_eq_true rfl) dX8_path_30 ⟨Nat.le_of_ble_eq_true rfl, Nat.le_of_ble_eq_true rfl⟩ (w1 := fun u1 => []) (fun _ => rfl) (fun r2 u1 H locs hp hP hD hS => ?_)
  subst hp
  exact ret (-1) (fun _ => 0, fun _ _ => 0) _ _ _ _ _ _ rfl rfl (bw_subP (isC := []) hP rfl) (hD.sub [] (by decide) rfl) hS (Nat.le_of_ble_eq_true rfl) (Nat.le_of_ble_eq_true rfl) dX8_path_33
theorem dX8_must_0 : decode cX8_must 0 = .ok (.aload_n 0, 1) := by decide +kernel
theorem dX8_must_1 : decode cX8_must 1 = .ok (.iload_n 1, 1) := by decide +kernel
theorem dX8_must_2 : decode cX8_must 2 = .ok (.invokevirtual 204, 3) := by decide +kernel
theorem k_789 : Cond.methodLink RX8 204 yX8_surveyed ∈ bw_T := bw_m 789 (by decide +kernel) rfl
theorem kv_X8_surveyed : bw_KV RX8 yX8_surveyed (Cond.code yX8_surveyed cX8_surveyed 2 (some .boolean)) := ⟨bw_m 791 (by decide +kernel) rfl, bw_m 26 (by decide +kernel) rfl, bw_m 94 (by decide +kernel) rfl, bw_m 792 (by decide +kernel) rfl⟩
theorem dX8_must_5 : decode cX8_must 5 = .ok (.ifCond .eq 13, 3) := by decide +kernel
theorem dX8_must_18 : decode cX8_must 18 = .ok (.iconst (-1), 1) := by decide +kernel
theorem dX8_must_19 : decode cX8_must 19 = .ok (.ireturn, 1) := by decide +kernel
abbrev rm_X8_must : Room := { frames := 2, cells := 0, slots := 0, locals := 41 }
set_option maxRecDepth 100000 in
set_option maxHeartbeats 4000000 in
theorem c_X8_must {l : Launch} {E : (Nat → Prop) → State → Prop} (hO : bw_Ok E) {G : va_G} {cI cB cJ cN cW : ClassId} (b : Nat) (q : Nat → Nat) (x : Int32) : bw_Ci (S := bw_U) l yX8_must (bw_ws (Cond.code yX8_must cX8_must 2 (some .int))) rm_X8_must E G (bw_kt cI cB cJ cN cW) [.ref b, .int x] [(b, .inr (8, [.int 0, .int 0, .ref (q 0), .ref (q 1), .ref (q 2), .ref (q 3), .ref (q 4), .ref (q 5), .ref (q 6), .ref (q 7), .ref (q 8), .ref (q 9), .ref (q 10), .ref (q 11)]))] (fun r _ => r = -1) (fun _ => []) := by
  refine bw_Ci.of (cc := cX8_must) (maxL := 2) (ty := .int) (by decide) rfl (Nat.le_of_ble_eq_true rfl) ?_
  intro p e s m below meth c A Q hx hb hml hts hown hin hK hA hS hP hD hE ret ls hl
  have F : CallFix p m c cX8_must 2 s ([.ref b, .int x] : List Value).toArray bw_T RX8 := ⟨hx, hb, hml, hown, fun w h => hts w (List.mem_cons_of_mem _ h)⟩
  have hl : lv_has ls 2 [(0, .ref b), (1, .int x)] := hl
  refine lv_aload_n hx hb dX8_must_0 rfl (lv_at hl 0 rfl) ?_
  refine lv_iload_n hx hb dX8_must_1 rfl (lv_at hl 1 rfl) ?_
  refine r_callVi (As := [.int x]) (rest := []) (wr := []) F hK hP hD hS hA hO hE (c_X8_surveyed hO b q x) k_789 kv_X8_surveyed 1 rfl (by decide +kernel) ⟨Nat.le_of_ble_eq_true rfl, Nat.le_of_ble_eq_true rfl⟩ [0] [] rfl rfl (by decide) (by decide) (by decide) 0 8 rfl rfl rfl hl.1 rfl (Nat.le_of_ble_eq_true rfl) dX8_must_2 ⟨Nat.le_of_ble_eq_true rfl, Nat.le_of_ble_eq_true rfl⟩ (w1 := fun u1 => []) (fun _ => rfl) (fun r2 u1 H locs hp hP hD hS => ?_)
  subst hp
  refine lv_if_eq (tgt := 18) hx hb dX8_must_5 (by decide) (fun _ => ?_) (fun h9 => absurd (by decide) h9)
  refine lv_iconst (v := (-1)) hx hb dX8_must_18 (by decide) ?_
  exact ret (-1) (fun _ => 0, fun _ _ => 0) _ _ _ _ _ _ rfl rfl (bw_subP (isC := []) hP rfl) (hD.sub [] (by decide) rfl) hS (Nat.le_of_ble_eq_true rfl) (Nat.le_of_ble_eq_true rfl) dX8_must_19
theorem dX8_unburnt_0 : decode cX8_unburnt 0 = .ok (.aload_n 0, 1) := by decide +kernel
theorem dX8_unburnt_1 : decode cX8_unburnt 1 = .ok (.iload_n 1, 1) := by decide +kernel
theorem dX8_unburnt_2 : decode cX8_unburnt 2 = .ok (.invokevirtual 204, 3) := by decide +kernel
theorem dX8_unburnt_5 : decode cX8_unburnt 5 = .ok (.ifCond .eq 13, 3) := by decide +kernel
theorem dX8_unburnt_18 : decode cX8_unburnt 18 = .ok (.iconst (-1), 1) := by decide +kernel
theorem dX8_unburnt_19 : decode cX8_unburnt 19 = .ok (.ireturn, 1) := by decide +kernel
abbrev rm_X8_unburnt : Room := { frames := 2, cells := 0, slots := 0, locals := 41 }
set_option maxRecDepth 100000 in
set_option maxHeartbeats 4000000 in
theorem c_X8_unburnt {l : Launch} {E : (Nat → Prop) → State → Prop} (hO : bw_Ok E) {G : va_G} {cI cB cJ cN cW : ClassId} (b : Nat) (q : Nat → Nat) (x : Int32) : bw_Ci (S := bw_U) l yX8_unburnt (bw_ws (Cond.code yX8_unburnt cX8_unburnt 2 (some .int))) rm_X8_unburnt E G (bw_kt cI cB cJ cN cW) [.ref b, .int x] [(b, .inr (8, [.int 0, .int 0, .ref (q 0), .ref (q 1), .ref (q 2), .ref (q 3), .ref (q 4), .ref (q 5), .ref (q 6), .ref (q 7), .ref (q 8), .ref (q 9), .ref (q 10), .ref (q 11)]))] (fun r _ => r = -1) (fun _ => []) := by
  refine bw_Ci.of (cc := cX8_unburnt) (maxL := 2) (ty := .int) (by decide) rfl (Nat.le_of_ble_eq_true rfl) ?_
  intro p e s m below meth c A Q hx hb hml hts hown hin hK hA hS hP hD hE ret ls hl
  have F : CallFix p m c cX8_unburnt 2 s ([.ref b, .int x] : List Value).toArray bw_T RX8 := ⟨hx, hb, hml, hown, fun w h => hts w (List.mem_cons_of_mem _ h)⟩
  have hl : lv_has ls 2 [(0, .ref b), (1, .int x)] := hl
  refine lv_aload_n hx hb dX8_unburnt_0 rfl (lv_at hl 0 rfl) ?_
  refine lv_iload_n hx hb dX8_unburnt_1 rfl (lv_at hl 1 rfl) ?_
  refine r_callVi (As := [.int x]) (rest := []) (wr := []) F hK hP hD hS hA hO hE (c_X8_surveyed hO b q x) k_789 kv_X8_surveyed 1 rfl (by decide +kernel) ⟨Nat.le_of_ble_eq_true rfl, Nat.le_of_ble_eq_true rfl⟩ [0] [] rfl rfl (by decide) (by decide) (by decide) 0 8 rfl rfl rfl hl.1 rfl (Nat.le_of_ble_eq_true rfl) dX8_unburnt_2 ⟨Nat.le_of_ble_eq_true rfl, Nat.le_of_ble_eq_true rfl⟩ (w1 := fun u1 => []) (fun _ => rfl) (fun r2 u1 H locs hp hP hD hS => ?_)
  subst hp
  refine lv_if_eq (tgt := 18) hx hb dX8_unburnt_5 (by decide) (fun _ => ?_) (fun h9 => absurd (by decide) h9)
  refine lv_iconst (v := (-1)) hx hb dX8_unburnt_18 (by decide) ?_
  exact ret (-1) (fun _ => 0, fun _ _ => 0) _ _ _ _ _ _ rfl rfl (bw_subP (isC := []) hP rfl) (hD.sub [] (by decide) rfl) hS (Nat.le_of_ble_eq_true rfl) (Nat.le_of_ble_eq_true rfl) dX8_unburnt_19
theorem dX8_whole_0 : decode cX8_whole 0 = .ok (.aload_n 0, 1) := by decide +kernel
theorem dX8_whole_1 : decode cX8_whole 1 = .ok (.iload_n 1, 1) := by decide +kernel
theorem dX8_whole_2 : decode cX8_whole 2 = .ok (.invokevirtual 204, 3) := by decide +kernel
theorem dX8_whole_5 : decode cX8_whole 5 = .ok (.ifCond .eq 13, 3) := by decide +kernel
theorem dX8_whole_18 : decode cX8_whole 18 = .ok (.iconst (-1), 1) := by decide +kernel
theorem dX8_whole_19 : decode cX8_whole 19 = .ok (.ireturn, 1) := by decide +kernel
abbrev rm_X8_whole : Room := { frames := 2, cells := 0, slots := 0, locals := 41 }
set_option maxRecDepth 100000 in
set_option maxHeartbeats 4000000 in
theorem c_X8_whole {l : Launch} {E : (Nat → Prop) → State → Prop} (hO : bw_Ok E) {G : va_G} {cI cB cJ cN cW : ClassId} (b : Nat) (q : Nat → Nat) (x : Int32) : bw_Ci (S := bw_U) l yX8_whole (bw_ws (Cond.code yX8_whole cX8_whole 2 (some .int))) rm_X8_whole E G (bw_kt cI cB cJ cN cW) [.ref b, .int x] [(b, .inr (8, [.int 0, .int 0, .ref (q 0), .ref (q 1), .ref (q 2), .ref (q 3), .ref (q 4), .ref (q 5), .ref (q 6), .ref (q 7), .ref (q 8), .ref (q 9), .ref (q 10), .ref (q 11)]))] (fun r _ => r = -1) (fun _ => []) := by
  refine bw_Ci.of (cc := cX8_whole) (maxL := 2) (ty := .int) (by decide) rfl (Nat.le_of_ble_eq_true rfl) ?_
  intro p e s m below meth c A Q hx hb hml hts hown hin hK hA hS hP hD hE ret ls hl
  have F : CallFix p m c cX8_whole 2 s ([.ref b, .int x] : List Value).toArray bw_T RX8 := ⟨hx, hb, hml, hown, fun w h => hts w (List.mem_cons_of_mem _ h)⟩
  have hl : lv_has ls 2 [(0, .ref b), (1, .int x)] := hl
  refine lv_aload_n hx hb dX8_whole_0 rfl (lv_at hl 0 rfl) ?_
  refine lv_iload_n hx hb dX8_whole_1 rfl (lv_at hl 1 rfl) ?_
  refine r_callVi (As := [.int x]) (rest := []) (wr := []) F hK hP hD hS hA hO hE (c_X8_surveyed hO b q x) k_789 kv_X8_surveyed 1 rfl (by decide +kernel) ⟨Nat.le_of_ble_eq_true rfl, Nat.le_of_ble_eq_true rfl⟩ [0] [] rfl rfl (by decide) (by decide) (by decide) 0 8 rfl rfl rfl hl.1 rfl (Nat.le_of_ble_eq_true rfl) dX8_whole_2 ⟨Nat.le_of_ble_eq_true rfl, Nat.le_of_ble_eq_true rfl⟩ (w1 := fun u1 => []) (fun _ => rfl) (fun r2 u1 H locs hp hP hD hS => ?_)
  subst hp
  refine lv_if_eq (tgt := 18) hx hb dX8_whole_5 (by decide) (fun _ => ?_) (fun h9 => absurd (by decide) h9)
  refine lv_iconst (v := (-1)) hx hb dX8_whole_18 (by decide) ?_
  exact ret (-1) (fun _ => 0, fun _ _ => 0) _ _ _ _ _ _ rfl rfl (bw_subP (isC := []) hP rfl) (hD.sub [] (by decide) rfl) hS (Nat.le_of_ble_eq_true rfl) (Nat.le_of_ble_eq_true rfl) dX8_whole_19
theorem dX8_longest_0 : decode cX8_longest 0 = .ok (.aload_n 0, 1) := by decide +kernel
theorem dX8_longest_1 : decode cX8_longest 1 = .ok (.iload_n 1, 1) := by decide +kernel
theorem dX8_longest_2 : decode cX8_longest 2 = .ok (.invokevirtual 204, 3) := by decide +kernel
theorem dX8_longest_5 : decode cX8_longest 5 = .ok (.ifCond .eq 13, 3) := by decide +kernel
theorem dX8_longest_18 : decode cX8_longest 18 = .ok (.iconst (-1), 1) := by decide +kernel
theorem dX8_longest_19 : decode cX8_longest 19 = .ok (.ireturn, 1) := by decide +kernel
abbrev rm_X8_longest : Room := { frames := 2, cells := 0, slots := 0, locals := 41 }
set_option maxRecDepth 100000 in
set_option maxHeartbeats 4000000 in
theorem c_X8_longest {l : Launch} {E : (Nat → Prop) → State → Prop} (hO : bw_Ok E) {G : va_G} {cI cB cJ cN cW : ClassId} (b : Nat) (q : Nat → Nat) (x : Int32) : bw_Ci (S := bw_U) l yX8_longest (bw_ws (Cond.code yX8_longest cX8_longest 2 (some .int))) rm_X8_longest E G (bw_kt cI cB cJ cN cW) [.ref b, .int x] [(b, .inr (8, [.int 0, .int 0, .ref (q 0), .ref (q 1), .ref (q 2), .ref (q 3), .ref (q 4), .ref (q 5), .ref (q 6), .ref (q 7), .ref (q 8), .ref (q 9), .ref (q 10), .ref (q 11)]))] (fun r _ => r = -1) (fun _ => []) := by
  refine bw_Ci.of (cc := cX8_longest) (maxL := 2) (ty := .int) (by decide) rfl (Nat.le_of_ble_eq_true rfl) ?_
  intro p e s m below meth c A Q hx hb hml hts hown hin hK hA hS hP hD hE ret ls hl
  have F : CallFix p m c cX8_longest 2 s ([.ref b, .int x] : List Value).toArray bw_T RX8 := ⟨hx, hb, hml, hown, fun w h => hts w (List.mem_cons_of_mem _ h)⟩
  have hl : lv_has ls 2 [(0, .ref b), (1, .int x)] := hl
  refine lv_aload_n hx hb dX8_longest_0 rfl (lv_at hl 0 rfl) ?_
  refine lv_iload_n hx hb dX8_longest_1 rfl (lv_at hl 1 rfl) ?_
  refine r_callVi (As := [.int x]) (rest := []) (wr := []) F hK hP hD hS hA hO hE (c_X8_surveyed hO b q x) k_789 kv_X8_surveyed 1 rfl (by decide +kernel) ⟨Nat.le_of_ble_eq_true rfl, Nat.le_of_ble_eq_true rfl⟩ [0] [] rfl rfl (by decide) (by decide) (by decide) 0 8 rfl rfl rfl hl.1 rfl (Nat.le_of_ble_eq_true rfl) dX8_longest_2 ⟨Nat.le_of_ble_eq_true rfl, Nat.le_of_ble_eq_true rfl⟩ (w1 := fun u1 => []) (fun _ => rfl) (fun r2 u1 H locs hp hP hD hS => ?_)
  subst hp
  refine lv_if_eq (tgt := 18) hx hb dX8_longest_5 (by decide) (fun _ => ?_) (fun h9 => absurd (by decide) h9)
  refine lv_iconst (v := (-1)) hx hb dX8_longest_18 (by decide) ?_
  exact ret (-1) (fun _ => 0, fun _ _ => 0) _ _ _ _ _ _ rfl rfl (bw_subP (isC := []) hP rfl) (hD.sub [] (by decide) rfl) hS (Nat.le_of_ble_eq_true rfl) (Nat.le_of_ble_eq_true rfl) dX8_longest_19
theorem dX8_longestAt_0 : decode cX8_longestAt 0 = .ok (.aload_n 0, 1) := by decide +kernel
theorem dX8_longestAt_1 : decode cX8_longestAt 1 = .ok (.iload_n 1, 1) := by decide +kernel
theorem dX8_longestAt_2 : decode cX8_longestAt 2 = .ok (.invokevirtual 204, 3) := by decide +kernel
theorem dX8_longestAt_5 : decode cX8_longestAt 5 = .ok (.ifCond .eq 13, 3) := by decide +kernel
theorem dX8_longestAt_18 : decode cX8_longestAt 18 = .ok (.iconst (-1), 1) := by decide +kernel
theorem dX8_longestAt_19 : decode cX8_longestAt 19 = .ok (.ireturn, 1) := by decide +kernel
abbrev rm_X8_longestAt : Room := { frames := 2, cells := 0, slots := 0, locals := 41 }
set_option maxRecDepth 100000 in
set_option maxHeartbeats 4000000 in
theorem c_X8_longestAt {l : Launch} {E : (Nat → Prop) → State → Prop} (hO : bw_Ok E) {G : va_G} {cI cB cJ cN cW : ClassId} (b : Nat) (q : Nat → Nat) (x : Int32) : bw_Ci (S := bw_U) l yX8_longestAt (bw_ws (Cond.code yX8_longestAt cX8_longestAt 2 (some .int))) rm_X8_longestAt E G (bw_kt cI cB cJ cN cW) [.ref b, .int x] [(b, .inr (8, [.int 0, .int 0, .ref (q 0), .ref (q 1), .ref (q 2), .ref (q 3), .ref (q 4), .ref (q 5), .ref (q 6), .ref (q 7), .ref (q 8), .ref (q 9), .ref (q 10), .ref (q 11)]))] (fun r _ => r = -1) (fun _ => []) := by
  refine bw_Ci.of (cc := cX8_longestAt) (maxL := 2) (ty := .int) (by decide) rfl (Nat.le_of_ble_eq_true rfl) ?_
  intro p e s m below meth c A Q hx hb hml hts hown hin hK hA hS hP hD hE ret ls hl
  have F : CallFix p m c cX8_longestAt 2 s ([.ref b, .int x] : List Value).toArray bw_T RX8 := ⟨hx, hb, hml, hown, fun w h => hts w (List.mem_cons_of_mem _ h)⟩
  have hl : lv_has ls 2 [(0, .ref b), (1, .int x)] := hl
  refine lv_aload_n hx hb dX8_longestAt_0 rfl (lv_at hl 0 rfl) ?_
  refine lv_iload_n hx hb dX8_longestAt_1 rfl (lv_at hl 1 rfl) ?_
  refine r_callVi (As := [.int x]) (rest := []) (wr := []) F hK hP hD hS hA hO hE (c_X8_surveyed hO b q x) k_789 kv_X8_surveyed 1 rfl (by decide +kernel) ⟨Nat.le_of_ble_eq_true rfl, Nat.le_of_ble_eq_true rfl⟩ [0] [] rfl rfl (by decide) (by decide) (by decide) 0 8 rfl rfl rfl hl.1 rfl (Nat.le_of_ble_eq_true rfl) dX8_longestAt_2 ⟨Nat.le_of_ble_eq_true rfl, Nat.le_of_ble_eq_true rfl⟩ (w1 := fun u1 => []) (fun _ => rfl) (fun r2 u1 H locs hp hP hD hS => ?_)
  subst hp
  refine lv_if_eq (tgt := 18) hx hb dX8_longestAt_5 (by decide) (fun _ => ?_) (fun h9 => absurd (by decide) h9)
  refine lv_iconst (v := (-1)) hx hb dX8_longestAt_18 (by decide) ?_
  exact ret (-1) (fun _ => 0, fun _ _ => 0) _ _ _ _ _ _ rfl rfl (bw_subP (isC := []) hP rfl) (hD.sub [] (by decide) rfl) hS (Nat.le_of_ble_eq_true rfl) (Nat.le_of_ble_eq_true rfl) dX8_longestAt_19
theorem dX8_trail_0 : decode cX8_trail 0 = .ok (.aload_n 0, 1) := by decide +kernel
theorem dX8_trail_1 : decode cX8_trail 1 = .ok (.getfield 13, 3) := by decide +kernel
theorem dX8_trail_4 : decode cX8_trail 4 = .ok (.ifCond .eq 7, 3) := by decide +kernel
theorem dX8_trail_11 : decode cX8_trail 11 = .ok (.aload_n 0, 1) := by decide +kernel
theorem dX8_trail_12 : decode cX8_trail 12 = .ok (.iconst 1, 1) := by decide +kernel
theorem dX8_trail_13 : decode cX8_trail 13 = .ok (.invokevirtual 92, 3) := by decide +kernel
theorem dX8_trail_16 : decode cX8_trail 16 = .ok (.ireturn, 1) := by decide +kernel
abbrev rm_X8_trail : Room := { frames := 1, cells := 0, slots := 0, locals := 21 }
set_option maxRecDepth 100000 in
set_option maxHeartbeats 4000000 in
theorem c_X8_trail {l : Launch} {E : (Nat → Prop) → State → Prop} (hO : bw_Ok E) {G : va_G} {cI cB cJ cN cW : ClassId} (b : Nat) (q : Nat → Nat) (x : Int32) : bw_Ci (S := bw_U) l yX8_trail (bw_ws (Cond.code yX8_trail cX8_trail 2 (some .int))) rm_X8_trail E G (bw_kt cI cB cJ cN cW) [.ref b, .int x] [(b, .inr (8, [.int 0, .int 0, .ref (q 0), .ref (q 1), .ref (q 2), .ref (q 3), .ref (q 4), .ref (q 5), .ref (q 6), .ref (q 7), .ref (q 8), .ref (q 9), .ref (q 10), .ref (q 11)]))] (fun r _ => r = -1) (fun _ => []) := by
  refine bw_Ci.of (cc := cX8_trail) (maxL := 2) (ty := .int) (by decide) rfl (Nat.le_of_ble_eq_true rfl) ?_
  intro p e s m below meth c A Q hx hb hml hts hown hin hK hA hS hP hD hE ret ls hl
  have F : CallFix p m c cX8_trail 2 s ([.ref b, .int x] : List Value).toArray bw_T RX8 := ⟨hx, hb, hml, hown, fun w h => hts w (List.mem_cons_of_mem _ h)⟩
  have hl : lv_has ls 2 [(0, .ref b), (1, .int x)] := hl
  refine lv_aload_n hx hb dX8_trail_0 rfl (lv_at hl 0 rfl) ?_
  refine r_get F hK hP 0 1 rfl rfl in_X8 (by decide) k_496 rfl dX8_trail_1 ?_
  refine lv_if_eq (tgt := 11) hx hb dX8_trail_4 (by decide) (fun _ => ?_) (fun h9 => absurd (by decide) h9)
  refine lv_aload_n hx hb dX8_trail_11 rfl (lv_at hl 0 rfl) ?_
  refine lv_iconst (v := 1) hx hb dX8_trail_12 (by decide) ?_
  refine r_callVi (As := [.int 1]) (rest := []) (wr := []) F hK hP hD hS hA hO hE (c_X8_refuse hO b q 1) k_550 kv_X8_refuse 1 rfl (by decide +kernel) ⟨Nat.le_of_ble_eq_true rfl, Nat.le_of_ble_eq_true rfl⟩ [0] [] rfl rfl (by decide) (by decide) (by decide) 0 8 rfl rfl rfl hl.1 rfl (Nat.le_of_ble_eq_true rfl) dX8_trail_13 ⟨Nat.le_of_ble_eq_true rfl, Nat.le_of_ble_eq_true rfl⟩ (w1 := fun u1 => []) (fun _ => rfl) (fun r2 u1 H locs hp hP hD hS => ?_)
  subst hp
  exact ret (-1) (fun _ => 0, fun _ _ => 0) _ _ _ _ _ _ rfl rfl (bw_subP (isC := []) hP rfl) (hD.sub [] (by decide) rfl) hS (Nat.le_of_ble_eq_true rfl) (Nat.le_of_ble_eq_true rfl) dX8_trail_16
theorem dX8_seen_0 : decode cX8_seen 0 = .ok (.aload_n 0, 1) := by decide +kernel
theorem dX8_seen_1 : decode cX8_seen 1 = .ok (.iload_n 1, 1) := by decide +kernel
theorem dX8_seen_2 : decode cX8_seen 2 = .ok (.invokevirtual 204, 3) := by decide +kernel
theorem dX8_seen_5 : decode cX8_seen 5 = .ok (.ifCond .eq 13, 3) := by decide +kernel
theorem dX8_seen_18 : decode cX8_seen 18 = .ok (.iconst (-1), 1) := by decide +kernel
theorem dX8_seen_19 : decode cX8_seen 19 = .ok (.ireturn, 1) := by decide +kernel
abbrev rm_X8_seen : Room := { frames := 2, cells := 0, slots := 0, locals := 41 }
set_option maxRecDepth 100000 in
set_option maxHeartbeats 4000000 in
theorem c_X8_seen {l : Launch} {E : (Nat → Prop) → State → Prop} (hO : bw_Ok E) {G : va_G} {cI cB cJ cN cW : ClassId} (b : Nat) (q : Nat → Nat) (x : Int32) : bw_Ci (S := bw_U) l yX8_seen (bw_ws (Cond.code yX8_seen cX8_seen 2 (some .int))) rm_X8_seen E G (bw_kt cI cB cJ cN cW) [.ref b, .int x] [(b, .inr (8, [.int 0, .int 0, .ref (q 0), .ref (q 1), .ref (q 2), .ref (q 3), .ref (q 4), .ref (q 5), .ref (q 6), .ref (q 7), .ref (q 8), .ref (q 9), .ref (q 10), .ref (q 11)]))] (fun r _ => r = -1) (fun _ => []) := by
  refine bw_Ci.of (cc := cX8_seen) (maxL := 2) (ty := .int) (by decide) rfl (Nat.le_of_ble_eq_true rfl) ?_
  intro p e s m below meth c A Q hx hb hml hts hown hin hK hA hS hP hD hE ret ls hl
  have F : CallFix p m c cX8_seen 2 s ([.ref b, .int x] : List Value).toArray bw_T RX8 := ⟨hx, hb, hml, hown, fun w h => hts w (List.mem_cons_of_mem _ h)⟩
  have hl : lv_has ls 2 [(0, .ref b), (1, .int x)] := hl
  refine lv_aload_n hx hb dX8_seen_0 rfl (lv_at hl 0 rfl) ?_
  refine lv_iload_n hx hb dX8_seen_1 rfl (lv_at hl 1 rfl) ?_
  refine r_callVi (As := [.int x]) (rest := []) (wr := []) F hK hP hD hS hA hO hE (c_X8_surveyed hO b q x) k_789 kv_X8_surveyed 1 rfl (by decide +kernel) ⟨Nat.le_of_ble_eq_true rfl, Nat.le_of_ble_eq_true rfl⟩ [0] [] rfl rfl (by decide) (by decide) (by decide) 0 8 rfl rfl rfl hl.1 rfl (Nat.le_of_ble_eq_true rfl) dX8_seen_2 ⟨Nat.le_of_ble_eq_true rfl, Nat.le_of_ble_eq_true rfl⟩ (w1 := fun u1 => []) (fun _ => rfl) (fun r2 u1 H locs hp hP hD hS => ?_)
  subst hp
  refine lv_if_eq (tgt := 18) hx hb dX8_seen_5 (by decide) (fun _ => ?_) (fun h9 => absurd (by decide) h9)
  refine lv_iconst (v := (-1)) hx hb dX8_seen_18 (by decide) ?_
  exact ret (-1) (fun _ => 0, fun _ _ => 0) _ _ _ _ _ _ rfl rfl (bw_subP (isC := []) hP rfl) (hD.sub [] (by decide) rfl) hS (Nat.le_of_ble_eq_true rfl) (Nat.le_of_ble_eq_true rfl) dX8_seen_19
theorem dX8_fold_0 : decode cX8_fold 0 = .ok (.aload_n 0, 1) := by decide +kernel
theorem dX8_fold_1 : decode cX8_fold 1 = .ok (.iload_n 1, 1) := by decide +kernel
theorem dX8_fold_2 : decode cX8_fold 2 = .ok (.invokevirtual 204, 3) := by decide +kernel
theorem dX8_fold_5 : decode cX8_fold 5 = .ok (.ifCond .ne 5, 3) := by decide +kernel
theorem dX8_fold_8 : decode cX8_fold 8 = .ok (.iconst (-1), 1) := by decide +kernel
theorem dX8_fold_9 : decode cX8_fold 9 = .ok (.ireturn, 1) := by decide +kernel
abbrev rm_X8_fold : Room := { frames := 2, cells := 0, slots := 0, locals := 41 }
set_option maxRecDepth 100000 in
set_option maxHeartbeats 4000000 in
theorem c_X8_fold {l : Launch} {E : (Nat → Prop) → State → Prop} (hO : bw_Ok E) {G : va_G} {cI cB cJ cN cW : ClassId} (b : Nat) (q : Nat → Nat) (x : Int32) : bw_Ci (S := bw_U) l yX8_fold (bw_ws (Cond.code yX8_fold cX8_fold 4 (some .int))) rm_X8_fold E G (bw_kt cI cB cJ cN cW) [.ref b, .int x] [(b, .inr (8, [.int 0, .int 0, .ref (q 0), .ref (q 1), .ref (q 2), .ref (q 3), .ref (q 4), .ref (q 5), .ref (q 6), .ref (q 7), .ref (q 8), .ref (q 9), .ref (q 10), .ref (q 11)]))] (fun r _ => r = -1) (fun _ => []) := by
  refine bw_Ci.of (cc := cX8_fold) (maxL := 4) (ty := .int) (by decide) rfl (Nat.le_of_ble_eq_true rfl) ?_
  intro p e s m below meth c A Q hx hb hml hts hown hin hK hA hS hP hD hE ret ls hl
  have F : CallFix p m c cX8_fold 4 s ([.ref b, .int x] : List Value).toArray bw_T RX8 := ⟨hx, hb, hml, hown, fun w h => hts w (List.mem_cons_of_mem _ h)⟩
  have hl : lv_has ls 4 [(0, .ref b), (1, .int x)] := hl
  refine lv_aload_n hx hb dX8_fold_0 rfl (lv_at hl 0 rfl) ?_
  refine lv_iload_n hx hb dX8_fold_1 rfl (lv_at hl 1 rfl) ?_
  refine r_callVi (As := [.int x]) (rest := []) (wr := []) F hK hP hD hS hA hO hE (c_X8_surveyed hO b q x) k_789 kv_X8_surveyed 1 rfl (by decide +kernel) ⟨Nat.le_of_ble_eq_true rfl, Nat.le_of_ble_eq_true rfl⟩ [0] [] rfl rfl (by decide) (by decide) (by decide) 0 8 rfl rfl rfl hl.1 rfl (Nat.le_of_ble_eq_true rfl) dX8_fold_2 ⟨Nat.le_of_ble_eq_true rfl, Nat.le_of_ble_eq_true rfl⟩ (w1 := fun u1 => []) (fun _ => rfl) (fun r2 u1 H locs hp hP hD hS => ?_)
  subst hp
  refine lv_if_ne (tgt := 10) hx hb dX8_fold_5 (by decide) (fun h9 => absurd (by decide) h9) (fun _ => ?_)
  refine lv_iconst (v := (-1)) hx hb dX8_fold_8 (by decide) ?_
  exact ret (-1) (fun _ => 0, fun _ _ => 0) _ _ _ _ _ _ rfl rfl (bw_subP (isC := []) hP rfl) (hD.sub [] (by decide) rfl) hS (Nat.le_of_ble_eq_true rfl) (Nat.le_of_ble_eq_true rfl) dX8_fold_9
theorem dX8_same_0 : decode cX8_same 0 = .ok (.aload_n 0, 1) := by decide +kernel
theorem dX8_same_1 : decode cX8_same 1 = .ok (.iload_n 1, 1) := by decide +kernel
theorem dX8_same_2 : decode cX8_same 2 = .ok (.invokevirtual 204, 3) := by decide +kernel
theorem dX8_same_5 : decode cX8_same 5 = .ok (.ifCond .eq 17, 3) := by decide +kernel
theorem dX8_same_22 : decode cX8_same 22 = .ok (.iconst (-1), 1) := by decide +kernel
theorem dX8_same_23 : decode cX8_same 23 = .ok (.ireturn, 1) := by decide +kernel
abbrev rm_X8_same : Room := { frames := 2, cells := 0, slots := 0, locals := 41 }
set_option maxRecDepth 100000 in
set_option maxHeartbeats 4000000 in
theorem c_X8_same {l : Launch} {E : (Nat → Prop) → State → Prop} (hO : bw_Ok E) {G : va_G} {cI cB cJ cN cW : ClassId} (b : Nat) (q : Nat → Nat) (x : Int32) : bw_Ci (S := bw_U) l yX8_same (bw_ws (Cond.code yX8_same cX8_same 2 (some .int))) rm_X8_same E G (bw_kt cI cB cJ cN cW) [.ref b, .int x] [(b, .inr (8, [.int 0, .int 0, .ref (q 0), .ref (q 1), .ref (q 2), .ref (q 3), .ref (q 4), .ref (q 5), .ref (q 6), .ref (q 7), .ref (q 8), .ref (q 9), .ref (q 10), .ref (q 11)]))] (fun r _ => r = -1) (fun _ => []) := by
  refine bw_Ci.of (cc := cX8_same) (maxL := 2) (ty := .int) (by decide) rfl (Nat.le_of_ble_eq_true rfl) ?_
  intro p e s m below meth c A Q hx hb hml hts hown hin hK hA hS hP hD hE ret ls hl
  have F : CallFix p m c cX8_same 2 s ([.ref b, .int x] : List Value).toArray bw_T RX8 := ⟨hx, hb, hml, hown, fun w h => hts w (List.mem_cons_of_mem _ h)⟩
  have hl : lv_has ls 2 [(0, .ref b), (1, .int x)] := hl
  refine lv_aload_n hx hb dX8_same_0 rfl (lv_at hl 0 rfl) ?_
  refine lv_iload_n hx hb dX8_same_1 rfl (lv_at hl 1 rfl) ?_
  refine r_callVi (As := [.int x]) (rest := []) (wr := []) F hK hP hD hS hA hO hE (c_X8_surveyed hO b q x) k_789 kv_X8_surveyed 1 rfl (by decide +kernel) ⟨Nat.le_of_ble_eq_true rfl, Nat.le_of_ble_eq_true rfl⟩ [0] [] rfl rfl (by decide) (by decide) (by decide) 0 8 rfl rfl rfl hl.1 rfl (Nat.le_of_ble_eq_true rfl) dX8_same_2 ⟨Nat.le_of_ble_eq_true rfl, Nat.le_of_ble_eq_true rfl⟩ (w1 := fun u1 => []) (fun _ => rfl) (fun r2 u1 H locs hp hP hD hS => ?_)
  subst hp
  refine lv_if_eq (tgt := 22) hx hb dX8_same_5 (by decide) (fun _ => ?_) (fun h9 => absurd (by decide) h9)
  refine lv_iconst (v := (-1)) hx hb dX8_same_22 (by decide) ?_
  exact ret (-1) (fun _ => 0, fun _ _ => 0) _ _ _ _ _ _ rfl rfl (bw_subP (isC := []) hP rfl) (hD.sub [] (by decide) rfl) hS (Nat.le_of_ble_eq_true rfl) (Nat.le_of_ble_eq_true rfl) dX8_same_23
theorem dX8_least_0 : decode cX8_least 0 = .ok (.aload_n 0, 1) := by decide +kernel
theorem dX8_least_1 : decode cX8_least 1 = .ok (.getfield 13, 3) := by decide +kernel
theorem dX8_least_4 : decode cX8_least 4 = .ok (.ifCond .ne 9, 3) := by decide +kernel
theorem dX8_least_7 : decode cX8_least 7 = .ok (.aload_n 0, 1) := by decide +kernel
theorem dX8_least_8 : decode cX8_least 8 = .ok (.iconst 1, 1) := by decide +kernel
theorem dX8_least_9 : decode cX8_least 9 = .ok (.invokevirtual 92, 3) := by decide +kernel
theorem dX8_least_12 : decode cX8_least 12 = .ok (.ireturn, 1) := by decide +kernel
abbrev rm_X8_least : Room := { frames := 1, cells := 0, slots := 0, locals := 21 }
set_option maxRecDepth 100000 in
set_option maxHeartbeats 4000000 in
theorem c_X8_least {l : Launch} {E : (Nat → Prop) → State → Prop} (hO : bw_Ok E) {G : va_G} {cI cB cJ cN cW : ClassId} (b : Nat) (q : Nat → Nat) (x : Int32) : bw_Ci (S := bw_U) l yX8_least (bw_ws (Cond.code yX8_least cX8_least 2 (some .int))) rm_X8_least E G (bw_kt cI cB cJ cN cW) [.ref b, .int x] [(b, .inr (8, [.int 0, .int 0, .ref (q 0), .ref (q 1), .ref (q 2), .ref (q 3), .ref (q 4), .ref (q 5), .ref (q 6), .ref (q 7), .ref (q 8), .ref (q 9), .ref (q 10), .ref (q 11)]))] (fun r _ => r = -1) (fun _ => []) := by
  refine bw_Ci.of (cc := cX8_least) (maxL := 2) (ty := .int) (by decide) rfl (Nat.le_of_ble_eq_true rfl) ?_
  intro p e s m below meth c A Q hx hb hml hts hown hin hK hA hS hP hD hE ret ls hl
  have F : CallFix p m c cX8_least 2 s ([.ref b, .int x] : List Value).toArray bw_T RX8 := ⟨hx, hb, hml, hown, fun w h => hts w (List.mem_cons_of_mem _ h)⟩
  have hl : lv_has ls 2 [(0, .ref b), (1, .int x)] := hl
  refine lv_aload_n hx hb dX8_least_0 rfl (lv_at hl 0 rfl) ?_
  refine r_get F hK hP 0 1 rfl rfl in_X8 (by decide) k_496 rfl dX8_least_1 ?_
  refine lv_if_ne (tgt := 13) hx hb dX8_least_4 (by decide) (fun h9 => absurd (by decide) h9) (fun _ => ?_)
  refine lv_aload_n hx hb dX8_least_7 rfl (lv_at hl 0 rfl) ?_
  refine lv_iconst (v := 1) hx hb dX8_least_8 (by decide) ?_
  refine r_callVi (As := [.int 1]) (rest := []) (wr := []) F hK hP hD hS hA hO hE (c_X8_refuse hO b q 1) k_550 kv_X8_refuse 1 rfl (by decide +kernel) ⟨Nat.le_of_ble_eq_true rfl, Nat.le_of_ble_eq_true rfl⟩ [0] [] rfl rfl (by decide) (by decide) (by decide) 0 8 rfl rfl rfl hl.1 rfl (Nat.le_of_ble_eq_true rfl) dX8_least_9 ⟨Nat.le_of_ble_eq_true rfl, Nat.le_of_ble_eq_true rfl⟩ (w1 := fun u1 => []) (fun _ => rfl) (fun r2 u1 H locs hp hP hD hS => ?_)
  subst hp
  exact ret (-1) (fun _ => 0, fun _ _ => 0) _ _ _ _ _ _ rfl rfl (bw_subP (isC := []) hP rfl) (hD.sub [] (by decide) rfl) hS (Nat.le_of_ble_eq_true rfl) (Nat.le_of_ble_eq_true rfl) dX8_least_12
theorem dX8_parted_0 : decode cX8_parted 0 = .ok (.aload_n 0, 1) := by decide +kernel
theorem dX8_parted_1 : decode cX8_parted 1 = .ok (.getfield 13, 3) := by decide +kernel
theorem dX8_parted_4 : decode cX8_parted 4 = .ok (.ifCond .eq 17, 3) := by decide +kernel
theorem dX8_parted_21 : decode cX8_parted 21 = .ok (.aload_n 0, 1) := by decide +kernel
theorem dX8_parted_22 : decode cX8_parted 22 = .ok (.iconst 1, 1) := by decide +kernel
theorem dX8_parted_23 : decode cX8_parted 23 = .ok (.invokevirtual 92, 3) := by decide +kernel
theorem dX8_parted_26 : decode cX8_parted 26 = .ok (.ireturn, 1) := by decide +kernel
abbrev rm_X8_parted : Room := { frames := 1, cells := 0, slots := 0, locals := 21 }
set_option maxRecDepth 100000 in
set_option maxHeartbeats 4000000 in
theorem c_X8_parted {l : Launch} {E : (Nat → Prop) → State → Prop} (hO : bw_Ok E) {G : va_G} {cI cB cJ cN cW : ClassId} (b : Nat) (q : Nat → Nat) (x : Int32) (y : Int32) : bw_Ci (S := bw_U) l yX8_parted (bw_ws (Cond.code yX8_parted cX8_parted 3 (some .int))) rm_X8_parted E G (bw_kt cI cB cJ cN cW) [.ref b, .int x, .int y] [(b, .inr (8, [.int 0, .int 0, .ref (q 0), .ref (q 1), .ref (q 2), .ref (q 3), .ref (q 4), .ref (q 5), .ref (q 6), .ref (q 7), .ref (q 8), .ref (q 9), .ref (q 10), .ref (q 11)]))] (fun r _ => r = -1) (fun _ => []) := by
  refine bw_Ci.of (cc := cX8_parted) (maxL := 3) (ty := .int) (by decide) rfl (Nat.le_of_ble_eq_true rfl) ?_
  intro p e s m below meth c A Q hx hb hml hts hown hin hK hA hS hP hD hE ret ls hl
  have F : CallFix p m c cX8_parted 3 s ([.ref b, .int x, .int y] : List Value).toArray bw_T RX8 := ⟨hx, hb, hml, hown, fun w h => hts w (List.mem_cons_of_mem _ h)⟩
  have hl : lv_has ls 3 [(0, .ref b), (1, .int x), (2, .int y)] := hl
  refine lv_aload_n hx hb dX8_parted_0 rfl (lv_at hl 0 rfl) ?_
  refine r_get F hK hP 0 1 rfl rfl in_X8 (by decide) k_496 rfl dX8_parted_1 ?_
  refine lv_if_eq (tgt := 21) hx hb dX8_parted_4 (by decide) (fun _ => ?_) (fun h9 => absurd (by decide) h9)
  refine lv_aload_n hx hb dX8_parted_21 rfl (lv_at hl 0 rfl) ?_
  refine lv_iconst (v := 1) hx hb dX8_parted_22 (by decide) ?_
  refine r_callVi (As := [.int 1]) (rest := []) (wr := []) F hK hP hD hS hA hO hE (c_X8_refuse hO b q 1) k_550 kv_X8_refuse 1 rfl (by decide +kernel) ⟨Nat.le_of_ble_eq_true rfl, Nat.le_of_ble_eq_true rfl⟩ [0] [] rfl rfl (by decide) (by decide) (by decide) 0 8 rfl rfl rfl hl.1 rfl (Nat.le_of_ble_eq_true rfl) dX8_parted_23 ⟨Nat.le_of_ble_eq_true rfl, Nat.le_of_ble_eq_true rfl⟩ (w1 := fun u1 => []) (fun _ => rfl) (fun r2 u1 H locs hp hP hD hS => ?_)
  subst hp
  exact ret (-1) (fun _ => 0, fun _ _ => 0) _ _ _ _ _ _ rfl rfl (bw_subP (isC := []) hP rfl) (hD.sub [] (by decide) rfl) hS (Nat.le_of_ble_eq_true rfl) (Nat.le_of_ble_eq_true rfl) dX8_parted_26
theorem dX8_ends_0 : decode cX8_ends 0 = .ok (.aload_n 0, 1) := by decide +kernel
theorem dX8_ends_1 : decode cX8_ends 1 = .ok (.getfield 13, 3) := by decide +kernel
theorem dX8_ends_4 : decode cX8_ends 4 = .ok (.ifCond .eq 13, 3) := by decide +kernel
theorem dX8_ends_17 : decode cX8_ends 17 = .ok (.aload_n 0, 1) := by decide +kernel
theorem dX8_ends_18 : decode cX8_ends 18 = .ok (.iconst 1, 1) := by decide +kernel
theorem dX8_ends_19 : decode cX8_ends 19 = .ok (.invokevirtual 92, 3) := by decide +kernel
theorem dX8_ends_22 : decode cX8_ends 22 = .ok (.ireturn, 1) := by decide +kernel
abbrev rm_X8_ends : Room := { frames := 1, cells := 0, slots := 0, locals := 21 }
set_option maxRecDepth 100000 in
set_option maxHeartbeats 4000000 in
theorem c_X8_ends {l : Launch} {E : (Nat → Prop) → State → Prop} (hO : bw_Ok E) {G : va_G} {cI cB cJ cN cW : ClassId} (b : Nat) (q : Nat → Nat) (x : Int32) (y : Int32) : bw_Ci (S := bw_U) l yX8_ends (bw_ws (Cond.code yX8_ends cX8_ends 3 (some .int))) rm_X8_ends E G (bw_kt cI cB cJ cN cW) [.ref b, .int x, .int y] [(b, .inr (8, [.int 0, .int 0, .ref (q 0), .ref (q 1), .ref (q 2), .ref (q 3), .ref (q 4), .ref (q 5), .ref (q 6), .ref (q 7), .ref (q 8), .ref (q 9), .ref (q 10), .ref (q 11)]))] (fun r _ => r = -1) (fun _ => []) := by
  refine bw_Ci.of (cc := cX8_ends) (maxL := 3) (ty := .int) (by decide) rfl (Nat.le_of_ble_eq_true rfl) ?_
  intro p e s m below meth c A Q hx hb hml hts hown hin hK hA hS hP hD hE ret ls hl
  have F : CallFix p m c cX8_ends 3 s ([.ref b, .int x, .int y] : List Value).toArray bw_T RX8 := ⟨hx, hb, hml, hown, fun w h => hts w (List.mem_cons_of_mem _ h)⟩
  have hl : lv_has ls 3 [(0, .ref b), (1, .int x), (2, .int y)] := hl
  refine lv_aload_n hx hb dX8_ends_0 rfl (lv_at hl 0 rfl) ?_
  refine r_get F hK hP 0 1 rfl rfl in_X8 (by decide) k_496 rfl dX8_ends_1 ?_
  refine lv_if_eq (tgt := 17) hx hb dX8_ends_4 (by decide) (fun _ => ?_) (fun h9 => absurd (by decide) h9)
  refine lv_aload_n hx hb dX8_ends_17 rfl (lv_at hl 0 rfl) ?_
  refine lv_iconst (v := 1) hx hb dX8_ends_18 (by decide) ?_
  refine r_callVi (As := [.int 1]) (rest := []) (wr := []) F hK hP hD hS hA hO hE (c_X8_refuse hO b q 1) k_550 kv_X8_refuse 1 rfl (by decide +kernel) ⟨Nat.le_of_ble_eq_true rfl, Nat.le_of_ble_eq_true rfl⟩ [0] [] rfl rfl (by decide) (by decide) (by decide) 0 8 rfl rfl rfl hl.1 rfl (Nat.le_of_ble_eq_true rfl) dX8_ends_19 ⟨Nat.le_of_ble_eq_true rfl, Nat.le_of_ble_eq_true rfl⟩ (w1 := fun u1 => []) (fun _ => rfl) (fun r2 u1 H locs hp hP hD hS => ?_)
  subst hp
  exact ret (-1) (fun _ => 0, fun _ _ => 0) _ _ _ _ _ _ rfl rfl (bw_subP (isC := []) hP rfl) (hD.sub [] (by decide) rfl) hS (Nat.le_of_ble_eq_true rfl) (Nat.le_of_ble_eq_true rfl) dX8_ends_22
theorem dX8_leastLine_0 : decode cX8_leastLine 0 = .ok (.aload_n 0, 1) := by decide +kernel
theorem dX8_leastLine_1 : decode cX8_leastLine 1 = .ok (.getfield 13, 3) := by decide +kernel
theorem dX8_leastLine_4 : decode cX8_leastLine 4 = .ok (.ifCond .eq 12, 3) := by decide +kernel
theorem dX8_leastLine_16 : decode cX8_leastLine 16 = .ok (.aload_n 0, 1) := by decide +kernel
theorem dX8_leastLine_17 : decode cX8_leastLine 17 = .ok (.iconst 1, 1) := by decide +kernel
theorem dX8_leastLine_18 : decode cX8_leastLine 18 = .ok (.invokevirtual 92, 3) := by decide +kernel
theorem dX8_leastLine_21 : decode cX8_leastLine 21 = .ok (.ireturn, 1) := by decide +kernel
abbrev rm_X8_leastLine : Room := { frames := 1, cells := 0, slots := 0, locals := 21 }
set_option maxRecDepth 100000 in
set_option maxHeartbeats 4000000 in
theorem c_X8_leastLine {l : Launch} {E : (Nat → Prop) → State → Prop} (hO : bw_Ok E) {G : va_G} {cI cB cJ cN cW : ClassId} (b : Nat) (q : Nat → Nat) (x : Int32) (y : Int32) : bw_Ci (S := bw_U) l yX8_leastLine (bw_ws (Cond.code yX8_leastLine cX8_leastLine 4 (some .int))) rm_X8_leastLine E G (bw_kt cI cB cJ cN cW) [.ref b, .int x, .int y] [(b, .inr (8, [.int 0, .int 0, .ref (q 0), .ref (q 1), .ref (q 2), .ref (q 3), .ref (q 4), .ref (q 5), .ref (q 6), .ref (q 7), .ref (q 8), .ref (q 9), .ref (q 10), .ref (q 11)]))] (fun r _ => r = -1) (fun _ => []) := by
  refine bw_Ci.of (cc := cX8_leastLine) (maxL := 4) (ty := .int) (by decide) rfl (Nat.le_of_ble_eq_true rfl) ?_
  intro p e s m below meth c A Q hx hb hml hts hown hin hK hA hS hP hD hE ret ls hl
  have F : CallFix p m c cX8_leastLine 4 s ([.ref b, .int x, .int y] : List Value).toArray bw_T RX8 := ⟨hx, hb, hml, hown, fun w h => hts w (List.mem_cons_of_mem _ h)⟩
  have hl : lv_has ls 4 [(0, .ref b), (1, .int x), (2, .int y)] := hl
  refine lv_aload_n hx hb dX8_leastLine_0 rfl (lv_at hl 0 rfl) ?_
  refine r_get F hK hP 0 1 rfl rfl in_X8 (by decide) k_496 rfl dX8_leastLine_1 ?_
  refine lv_if_eq (tgt := 16) hx hb dX8_leastLine_4 (by decide) (fun _ => ?_) (fun h9 => absurd (by decide) h9)
  refine lv_aload_n hx hb dX8_leastLine_16 rfl (lv_at hl 0 rfl) ?_
  refine lv_iconst (v := 1) hx hb dX8_leastLine_17 (by decide) ?_
  refine r_callVi (As := [.int 1]) (rest := []) (wr := []) F hK hP hD hS hA hO hE (c_X8_refuse hO b q 1) k_550 kv_X8_refuse 1 rfl (by decide +kernel) ⟨Nat.le_of_ble_eq_true rfl, Nat.le_of_ble_eq_true rfl⟩ [0] [] rfl rfl (by decide) (by decide) (by decide) 0 8 rfl rfl rfl hl.1 rfl (Nat.le_of_ble_eq_true rfl) dX8_leastLine_18 ⟨Nat.le_of_ble_eq_true rfl, Nat.le_of_ble_eq_true rfl⟩ (w1 := fun u1 => []) (fun _ => rfl) (fun r2 u1 H locs hp hP hD hS => ?_)
  subst hp
  exact ret (-1) (fun _ => 0, fun _ _ => 0) _ _ _ _ _ _ rfl rfl (bw_subP (isC := []) hP rfl) (hD.sub [] (by decide) rfl) hS (Nat.le_of_ble_eq_true rfl) (Nat.le_of_ble_eq_true rfl) dX8_leastLine_21
theorem dX8_mark_0 : decode cX8_mark 0 = .ok (.aload_n 0, 1) := by decide +kernel
theorem dX8_mark_1 : decode cX8_mark 1 = .ok (.getfield 13, 3) := by decide +kernel
theorem dX8_mark_4 : decode cX8_mark 4 = .ok (.ifCond .ne 9, 3) := by decide +kernel
theorem dX8_mark_7 : decode cX8_mark 7 = .ok (.aload_n 0, 1) := by decide +kernel
theorem dX8_mark_8 : decode cX8_mark 8 = .ok (.iconst 1, 1) := by decide +kernel
theorem dX8_mark_9 : decode cX8_mark 9 = .ok (.invokevirtual 92, 3) := by decide +kernel
theorem dX8_mark_12 : decode cX8_mark 12 = .ok (.ireturn, 1) := by decide +kernel
abbrev rm_X8_mark : Room := { frames := 1, cells := 0, slots := 0, locals := 21 }
set_option maxRecDepth 100000 in
set_option maxHeartbeats 4000000 in
theorem c_X8_mark {l : Launch} {E : (Nat → Prop) → State → Prop} (hO : bw_Ok E) {G : va_G} {cI cB cJ cN cW : ClassId} (b : Nat) (q : Nat → Nat) : bw_Ci (S := bw_U) l yX8_mark (bw_ws (Cond.code yX8_mark cX8_mark 1 (some .int))) rm_X8_mark E G (bw_kt cI cB cJ cN cW) [.ref b] [(b, .inr (8, [.int 0, .int 0, .ref (q 0), .ref (q 1), .ref (q 2), .ref (q 3), .ref (q 4), .ref (q 5), .ref (q 6), .ref (q 7), .ref (q 8), .ref (q 9), .ref (q 10), .ref (q 11)]))] (fun r _ => r = -1) (fun _ => []) := by
  refine bw_Ci.of (cc := cX8_mark) (maxL := 1) (ty := .int) (by decide) rfl (Nat.le_of_ble_eq_true rfl) ?_
  intro p e s m below meth c A Q hx hb hml hts hown hin hK hA hS hP hD hE ret ls hl
  have F : CallFix p m c cX8_mark 1 s ([.ref b] : List Value).toArray bw_T RX8 := ⟨hx, hb, hml, hown, fun w h => hts w (List.mem_cons_of_mem _ h)⟩
  have hl : lv_has ls 1 [(0, .ref b)] := hl
  refine lv_aload_n hx hb dX8_mark_0 rfl (lv_at hl 0 rfl) ?_
  refine r_get F hK hP 0 1 rfl rfl in_X8 (by decide) k_496 rfl dX8_mark_1 ?_
  refine lv_if_ne (tgt := 13) hx hb dX8_mark_4 (by decide) (fun h9 => absurd (by decide) h9) (fun _ => ?_)
  refine lv_aload_n hx hb dX8_mark_7 rfl (lv_at hl 0 rfl) ?_
  refine lv_iconst (v := 1) hx hb dX8_mark_8 (by decide) ?_
  refine r_callVi (As := [.int 1]) (rest := []) (wr := []) F hK hP hD hS hA hO hE (c_X8_refuse hO b q 1) k_550 kv_X8_refuse 1 rfl (by decide +kernel) ⟨Nat.le_of_ble_eq_true rfl, Nat.le_of_ble_eq_true rfl⟩ [0] [] rfl rfl (by decide) (by decide) (by decide) 0 8 rfl rfl rfl hl.1 rfl (Nat.le_of_ble_eq_true rfl) dX8_mark_9 ⟨Nat.le_of_ble_eq_true rfl, Nat.le_of_ble_eq_true rfl⟩ (w1 := fun u1 => []) (fun _ => rfl) (fun r2 u1 H locs hp hP hD hS => ?_)
  subst hp
  exact ret (-1) (fun _ => 0, fun _ _ => 0) _ _ _ _ _ _ rfl rfl (bw_subP (isC := []) hP rfl) (hD.sub [] (by decide) rfl) hS (Nat.le_of_ble_eq_true rfl) (Nat.le_of_ble_eq_true rfl) dX8_mark_12
theorem dX8_start_0 : decode cX8_start 0 = .ok (.aload_n 0, 1) := by decide +kernel
theorem dX8_start_1 : decode cX8_start 1 = .ok (.iload_n 1, 1) := by decide +kernel
theorem dX8_start_2 : decode cX8_start 2 = .ok (.iload_n 2, 1) := by decide +kernel
theorem dX8_start_3 : decode cX8_start 3 = .ok (.iload_n 3, 1) := by decide +kernel
theorem dX8_start_4 : decode cX8_start 4 = .ok (.iload 4, 2) := by decide +kernel
theorem dX8_start_6 : decode cX8_start 6 = .ok (.invokevirtual 134, 3) := by decide +kernel
theorem k_679 : Cond.methodLink RX8 134 yX8_mayStart ∈ bw_T := bw_m 679 (by decide +kernel) rfl
theorem kv_X8_mayStart : bw_KV RX8 yX8_mayStart (Cond.code yX8_mayStart cX8_mayStart 5 (some .boolean)) := ⟨bw_m 681 (by decide +kernel) rfl, bw_m 21 (by decide +kernel) rfl, bw_m 94 (by decide +kernel) rfl, bw_m 682 (by decide +kernel) rfl⟩
theorem dX8_start_9 : decode cX8_start 9 = .ok (.ifCond .ne 5, 3) := by decide +kernel
theorem dX8_start_12 : decode cX8_start 12 = .ok (.iconst 0, 1) := by decide +kernel
theorem dX8_start_13 : decode cX8_start 13 = .ok (.ireturn, 1) := by decide +kernel
abbrev rm_X8_start : Room := { frames := 2, cells := 0, slots := 0, locals := 44 }
set_option maxRecDepth 100000 in
set_option maxHeartbeats 4000000 in
theorem c_X8_start {l : Launch} {E : (Nat → Prop) → State → Prop} (hO : bw_Ok E) {G : va_G} {cI cB cJ cN cW : ClassId} (b : Nat) (q : Nat → Nat) (a1 : Int32) (a2 : Int32) (a3 : Int32) (a4 : Int32) : bw_Ci (S := bw_U) l yX8_start (bw_ws (Cond.code yX8_start cX8_start 5 (some .boolean))) rm_X8_start E G (bw_kt cI cB cJ cN cW) [.ref b, .int a1, .int a2, .int a3, .int a4] [(b, .inr (8, [.int 0, .int 0, .ref (q 0), .ref (q 1), .ref (q 2), .ref (q 3), .ref (q 4), .ref (q 5), .ref (q 6), .ref (q 7), .ref (q 8), .ref (q 9), .ref (q 10), .ref (q 11)]))] (fun r _ => r = 0) (fun _ => []) := by
  refine bw_Ci.of (cc := cX8_start) (maxL := 5) (ty := .boolean) (by decide) rfl (Nat.le_of_ble_eq_true rfl) ?_
  intro p e s m below meth c A Q hx hb hml hts hown hin hK hA hS hP hD hE ret ls hl
  have F : CallFix p m c cX8_start 5 s ([.ref b, .int a1, .int a2, .int a3, .int a4] : List Value).toArray bw_T RX8 := ⟨hx, hb, hml, hown, fun w h => hts w (List.mem_cons_of_mem _ h)⟩
  have hl : lv_has ls 5 [(0, .ref b), (1, .int a1), (2, .int a2), (3, .int a3), (4, .int a4)] := hl
  refine lv_aload_n hx hb dX8_start_0 rfl (lv_at hl 0 rfl) ?_
  refine lv_iload_n hx hb dX8_start_1 rfl (lv_at hl 1 rfl) ?_
  refine lv_iload_n hx hb dX8_start_2 rfl (lv_at hl 2 rfl) ?_
  refine lv_iload_n hx hb dX8_start_3 rfl (lv_at hl 3 rfl) ?_
  refine lv_iload hx hb dX8_start_4 (lv_at hl 4 rfl) ?_
  refine r_callVi (As := [.int a1, .int a2, .int a3, .int a4]) (rest := []) (wr := []) F hK hP hD hS hA hO hE (c_X8_mayStart hO b q a1 a2 a3 a4) k_679 kv_X8_mayStart 4 rfl (by decide +kernel) ⟨Nat.le_of_ble_eq_true rfl, Nat.le_of_ble_eq_true rfl⟩ [0] [] rfl rfl (by decide) (by decide) (by decide) 0 8 rfl rfl rfl hl.1 rfl (Nat.le_of_ble_eq_true rfl) dX8_start_6 ⟨Nat.le_of_ble_eq_true rfl, Nat.le_of_ble_eq_true rfl⟩ (w1 := fun u1 => []) (fun _ => rfl) (fun r2 u1 H locs hp hP hD hS => ?_)
  subst hp
  refine lv_if_ne (tgt := 14) hx hb dX8_start_9 (by decide) (fun h9 => absurd (by decide) h9) (fun _ => ?_)
  refine lv_iconst (v := 0) hx hb dX8_start_12 (by decide) ?_
  exact ret 0 (fun _ => 0, fun _ _ => 0) _ _ _ _ _ _ rfl rfl (bw_subP (isC := []) hP rfl) (hD.sub [] (by decide) rfl) hS (Nat.le_of_ble_eq_true rfl) (Nat.le_of_ble_eq_true rfl) dX8_start_13
theorem dX8_answer_0 : decode cX8_answer 0 = .ok (.aload_n 0, 1) := by decide +kernel
theorem dX8_answer_1 : decode cX8_answer 1 = .ok (.iload_n 1, 1) := by decide +kernel
theorem dX8_answer_2 : decode cX8_answer 2 = .ok (.iload_n 2, 1) := by decide +kernel
theorem dX8_answer_3 : decode cX8_answer 3 = .ok (.iload_n 3, 1) := by decide +kernel
theorem dX8_answer_4 : decode cX8_answer 4 = .ok (.iload 4, 2) := by decide +kernel
theorem dX8_answer_6 : decode cX8_answer 6 = .ok (.invokevirtual 134, 3) := by decide +kernel
theorem dX8_answer_9 : decode cX8_answer 9 = .ok (.ifCond .ne 5, 3) := by decide +kernel
theorem dX8_answer_12 : decode cX8_answer 12 = .ok (.iconst (-1), 1) := by decide +kernel
theorem dX8_answer_13 : decode cX8_answer 13 = .ok (.ireturn, 1) := by decide +kernel
abbrev rm_X8_answer : Room := { frames := 2, cells := 0, slots := 0, locals := 44 }
set_option maxRecDepth 100000 in
set_option maxHeartbeats 4000000 in
theorem c_X8_answer {l : Launch} {E : (Nat → Prop) → State → Prop} (hO : bw_Ok E) {G : va_G} {cI cB cJ cN cW : ClassId} (b : Nat) (q : Nat → Nat) (a1 : Int32) (a2 : Int32) (a3 : Int32) (a4 : Int32) : bw_Ci (S := bw_U) l yX8_answer (bw_ws (Cond.code yX8_answer cX8_answer 5 (some .int))) rm_X8_answer E G (bw_kt cI cB cJ cN cW) [.ref b, .int a1, .int a2, .int a3, .int a4] [(b, .inr (8, [.int 0, .int 0, .ref (q 0), .ref (q 1), .ref (q 2), .ref (q 3), .ref (q 4), .ref (q 5), .ref (q 6), .ref (q 7), .ref (q 8), .ref (q 9), .ref (q 10), .ref (q 11)]))] (fun r _ => r = -1) (fun _ => []) := by
  refine bw_Ci.of (cc := cX8_answer) (maxL := 5) (ty := .int) (by decide) rfl (Nat.le_of_ble_eq_true rfl) ?_
  intro p e s m below meth c A Q hx hb hml hts hown hin hK hA hS hP hD hE ret ls hl
  have F : CallFix p m c cX8_answer 5 s ([.ref b, .int a1, .int a2, .int a3, .int a4] : List Value).toArray bw_T RX8 := ⟨hx, hb, hml, hown, fun w h => hts w (List.mem_cons_of_mem _ h)⟩
  have hl : lv_has ls 5 [(0, .ref b), (1, .int a1), (2, .int a2), (3, .int a3), (4, .int a4)] := hl
  refine lv_aload_n hx hb dX8_answer_0 rfl (lv_at hl 0 rfl) ?_
  refine lv_iload_n hx hb dX8_answer_1 rfl (lv_at hl 1 rfl) ?_
  refine lv_iload_n hx hb dX8_answer_2 rfl (lv_at hl 2 rfl) ?_
  refine lv_iload_n hx hb dX8_answer_3 rfl (lv_at hl 3 rfl) ?_
  refine lv_iload hx hb dX8_answer_4 (lv_at hl 4 rfl) ?_
  refine r_callVi (As := [.int a1, .int a2, .int a3, .int a4]) (rest := []) (wr := []) F hK hP hD hS hA hO hE (c_X8_mayStart hO b q a1 a2 a3 a4) k_679 kv_X8_mayStart 4 rfl (by decide +kernel) ⟨Nat.le_of_ble_eq_true rfl, Nat.le_of_ble_eq_true rfl⟩ [0] [] rfl rfl (by decide) (by decide) (by decide) 0 8 rfl rfl rfl hl.1 rfl (Nat.le_of_ble_eq_true rfl) dX8_answer_6 ⟨Nat.le_of_ble_eq_true rfl, Nat.le_of_ble_eq_true rfl⟩ (w1 := fun u1 => []) (fun _ => rfl) (fun r2 u1 H locs hp hP hD hS => ?_)
  subst hp
  refine lv_if_ne (tgt := 14) hx hb dX8_answer_9 (by decide) (fun h9 => absurd (by decide) h9) (fun _ => ?_)
  refine lv_iconst (v := (-1)) hx hb dX8_answer_12 (by decide) ?_
  exact ret (-1) (fun _ => 0, fun _ _ => 0) _ _ _ _ _ _ rfl rfl (bw_subP (isC := []) hP rfl) (hD.sub [] (by decide) rfl) hS (Nat.le_of_ble_eq_true rfl) (Nat.le_of_ble_eq_true rfl) dX8_answer_13
theorem dX8_left_0 : decode cX8_left 0 = .ok (.aload_n 0, 1) := by decide +kernel
theorem dX8_left_1 : decode cX8_left 1 = .ok (.getfield 31, 3) := by decide +kernel
theorem dX8_left_4 : decode cX8_left 4 = .ok (.iload_n 1, 1) := by decide +kernel
theorem dX8_left_5 : decode cX8_left 5 = .ok (.invokevirtual 162, 3) := by decide +kernel
theorem k_726 : Cond.methodLink RX8 162 yX2_hasWay ∈ bw_T := bw_m 726 (by decide +kernel) rfl
theorem kv_X2_hasWay : bw_KV RX2 yX2_hasWay (Cond.code yX2_hasWay cX2_hasWay 2 (some .boolean)) := ⟨bw_m 727 (by decide +kernel) rfl, bw_m 728 (by decide +kernel) rfl, bw_m 96 (by decide +kernel) rfl, bw_m 729 (by decide +kernel) rfl⟩
theorem dX8_left_8 : decode cX8_left 8 = .ok (.ifCond .ne 9, 3) := by decide +kernel
theorem dX8_left_11 : decode cX8_left 11 = .ok (.aload_n 0, 1) := by decide +kernel
theorem dX8_left_12 : decode cX8_left 12 = .ok (.iconst 1, 1) := by decide +kernel
theorem dX8_left_13 : decode cX8_left 13 = .ok (.invokevirtual 92, 3) := by decide +kernel
theorem dX8_left_16 : decode cX8_left 16 = .ok (.ireturn, 1) := by decide +kernel
abbrev rm_X8_left : Room := { frames := 1, cells := 0, slots := 0, locals := 21 }
set_option maxRecDepth 100000 in
set_option maxHeartbeats 4000000 in
theorem c_X8_left {l : Launch} {E : (Nat → Prop) → State → Prop} (hO : bw_Ok E) {G : va_G} {cI cB cJ cN cW : ClassId} (b : Nat) (q : Nat → Nat) (x : Int32) : bw_Ci (S := bw_U) l yX8_left (bw_ws (Cond.code yX8_left cX8_left 2 (some .int))) rm_X8_left E G (bw_kt cI cB cJ cN cW) [.ref b, .int x] [(b, .inr (8, [.int 0, .int 0, .ref (q 0), .ref (q 1), .ref (q 2), .ref (q 3), .ref (q 4), .ref (q 5), .ref (q 6), .ref (q 7), .ref (q 8), .ref (q 9), .ref (q 10), .ref (q 11)])), ((q 2), .inr (2, [.int 0, .ref (q 40), .ref (q 41), .ref (q 42), .ref (q 43), .ref (q 44), .ref (q 45), .ref (q 46), .ref (q 47)])), ((q 47), .inl (cI, 20, .inl (fun _ => 0)))] (fun r _ => r = -1) (fun _ => []) := by
  refine bw_Ci.of (cc := cX8_left) (maxL := 2) (ty := .int) (by decide) rfl (Nat.le_of_ble_eq_true rfl) ?_
  intro p e s m below meth c A Q hx hb hml hts hown hin hK hA hS hP hD hE ret ls hl
  have F : CallFix p m c cX8_left 2 s ([.ref b, .int x] : List Value).toArray bw_T RX8 := ⟨hx, hb, hml, hown, fun w h => hts w (List.mem_cons_of_mem _ h)⟩
  have hl : lv_has ls 2 [(0, .ref b), (1, .int x)] := hl
  refine lv_aload_n hx hb dX8_left_0 rfl (lv_at hl 0 rfl) ?_
  refine r_get F hK hP 0 4 rfl rfl in_X8 (by decide) k_499 rfl dX8_left_1 ?_
  refine lv_iload_n hx hb dX8_left_4 rfl (lv_at hl 1 rfl) ?_
  refine r_callVi (As := [.int x]) (rest := []) (wr := [(b, .inr (8, [.int 0, .int 0, .ref (q 0), .ref (q 1), .ref (q 2), .ref (q 3), .ref (q 4), .ref (q 5), .ref (q 6), .ref (q 7), .ref (q 8), .ref (q 9), .ref (q 10), .ref (q 11)]))]) F hK hP hD hS hA hO hE (c_X2_hasWay hO (q 2) q x) k_726 kv_X2_hasWay 1 rfl (by decide +kernel) ⟨Nat.le_of_ble_eq_true rfl, Nat.le_of_ble_eq_true rfl⟩ [1, 2] [0] rfl rfl (by decide) (by decide) (by decide) 0 2 rfl rfl rfl hl.1 rfl (Nat.le_of_ble_eq_true rfl) dX8_left_5 ⟨Nat.le_of_ble_eq_true rfl, Nat.le_of_ble_eq_true rfl⟩ (w1 := fun u1 => [(b, .inr (8, [.int 0, .int 0, .ref (q 0), .ref (q 1), .ref (q 2), .ref (q 3), .ref (q 4), .ref (q 5), .ref (q 6), .ref (q 7), .ref (q 8), .ref (q 9), .ref (q 10), .ref (q 11)]))]) (fun _ => rfl) (fun r2 u1 H locs hp hP hD hS => ?_)
  subst hp
  refine lv_if_ne (tgt := 17) hx hb dX8_left_8 (by decide) (fun h9 => absurd (by decide) h9) (fun _ => ?_)
  refine lv_aload_n hx hb dX8_left_11 rfl (lv_at hl 0 rfl) ?_
  refine lv_iconst (v := 1) hx hb dX8_left_12 (by decide) ?_
  refine r_callVi (As := [.int 1]) (rest := []) (wr := []) F hK hP hD hS hA hO hE (c_X8_refuse hO b q 1) k_550 kv_X8_refuse 1 rfl (by decide +kernel) ⟨Nat.le_of_ble_eq_true rfl, Nat.le_of_ble_eq_true rfl⟩ [0] [] rfl rfl (by decide) (by decide) (by decide) 0 8 rfl rfl rfl hl.1 rfl (Nat.le_of_ble_eq_true rfl) dX8_left_13 ⟨Nat.le_of_ble_eq_true rfl, Nat.le_of_ble_eq_true rfl⟩ (w1 := fun u3 => []) (fun _ => rfl) (fun r4 u3 H locs hp hP hD hS => ?_)
  subst hp
  exact ret (-1) (fun _ => 0, fun _ _ => 0) _ _ _ _ _ _ rfl rfl (bw_subP (isC := []) hP rfl) (hD.sub [] (by decide) rfl) hS (Nat.le_of_ble_eq_true rfl) (Nat.le_of_ble_eq_true rfl) dX8_left_16
theorem dX8_degree_0 : decode cX8_degree 0 = .ok (.aload_n 0, 1) := by decide +kernel
theorem dX8_degree_1 : decode cX8_degree 1 = .ok (.getfield 31, 3) := by decide +kernel
theorem dX8_degree_4 : decode cX8_degree 4 = .ok (.iload_n 1, 1) := by decide +kernel
theorem dX8_degree_5 : decode cX8_degree 5 = .ok (.invokevirtual 236, 3) := by decide +kernel
theorem dX8_degree_8 : decode cX8_degree 8 = .ok (.ifCond .ne 13, 3) := by decide +kernel
theorem dX8_degree_11 : decode cX8_degree 11 = .ok (.aload_n 0, 1) := by decide +kernel
theorem dX8_degree_12 : decode cX8_degree 12 = .ok (.iconst 1, 1) := by decide +kernel
theorem dX8_degree_13 : decode cX8_degree 13 = .ok (.invokevirtual 92, 3) := by decide +kernel
theorem dX8_degree_16 : decode cX8_degree 16 = .ok (.pop, 1) := by decide +kernel
theorem dX8_degree_17 : decode cX8_degree 17 = .ok (.sipush (-1000), 3) := by decide +kernel
theorem dX8_degree_20 : decode cX8_degree 20 = .ok (.ireturn, 1) := by decide +kernel
abbrev rm_X8_degree : Room := { frames := 1, cells := 0, slots := 0, locals := 21 }
set_option maxRecDepth 100000 in
set_option maxHeartbeats 4000000 in
theorem c_X8_degree {l : Launch} {E : (Nat → Prop) → State → Prop} (hO : bw_Ok E) {G : va_G} {cI cB cJ cN cW : ClassId} (b : Nat) (q : Nat → Nat) (x : Int32) : bw_Ci (S := bw_U) l yX8_degree (bw_ws (Cond.code yX8_degree cX8_degree 2 (some .int))) rm_X8_degree E G (bw_kt cI cB cJ cN cW) [.ref b, .int x] [(b, .inr (8, [.int 0, .int 0, .ref (q 0), .ref (q 1), .ref (q 2), .ref (q 3), .ref (q 4), .ref (q 5), .ref (q 6), .ref (q 7), .ref (q 8), .ref (q 9), .ref (q 10), .ref (q 11)])), ((q 2), .inr (2, [.int 0, .ref (q 40), .ref (q 41), .ref (q 42), .ref (q 43), .ref (q 44), .ref (q 45), .ref (q 46), .ref (q 47)]))] (fun r _ => r = -1000) (fun _ => []) := by
  refine bw_Ci.of (cc := cX8_degree) (maxL := 2) (ty := .int) (by decide) rfl (Nat.le_of_ble_eq_true rfl) ?_
  intro p e s m below meth c A Q hx hb hml hts hown hin hK hA hS hP hD hE ret ls hl
  have F : CallFix p m c cX8_degree 2 s ([.ref b, .int x] : List Value).toArray bw_T RX8 := ⟨hx, hb, hml, hown, fun w h => hts w (List.mem_cons_of_mem _ h)⟩
  have hl : lv_has ls 2 [(0, .ref b), (1, .int x)] := hl
  refine lv_aload_n hx hb dX8_degree_0 rfl (lv_at hl 0 rfl) ?_
  refine r_get F hK hP 0 4 rfl rfl in_X8 (by decide) k_499 rfl dX8_degree_1 ?_
  refine lv_iload_n hx hb dX8_degree_4 rfl (lv_at hl 1 rfl) ?_
  refine r_callVi (As := [.int x]) (rest := []) (wr := [(b, .inr (8, [.int 0, .int 0, .ref (q 0), .ref (q 1), .ref (q 2), .ref (q 3), .ref (q 4), .ref (q 5), .ref (q 6), .ref (q 7), .ref (q 8), .ref (q 9), .ref (q 10), .ref (q 11)]))]) F hK hP hD hS hA hO hE (c_X2_hasLine hO (q 2) q x) k_883 kv_X2_hasLine 1 rfl (by decide +kernel) ⟨Nat.le_of_ble_eq_true rfl, Nat.le_of_ble_eq_true rfl⟩ [1] [0] rfl rfl (by decide) (by decide) (by decide) 0 2 rfl rfl rfl hl.1 rfl (Nat.le_of_ble_eq_true rfl) dX8_degree_5 ⟨Nat.le_of_ble_eq_true rfl, Nat.le_of_ble_eq_true rfl⟩ (w1 := fun u1 => [(b, .inr (8, [.int 0, .int 0, .ref (q 0), .ref (q 1), .ref (q 2), .ref (q 3), .ref (q 4), .ref (q 5), .ref (q 6), .ref (q 7), .ref (q 8), .ref (q 9), .ref (q 10), .ref (q 11)]))]) (fun _ => rfl) (fun r2 u1 H locs hp hP hD hS => ?_)
  subst hp
  refine lv_if_ne (tgt := 21) hx hb dX8_degree_8 (by decide) (fun h9 => absurd (by decide) h9) (fun _ => ?_)
  refine lv_aload_n hx hb dX8_degree_11 rfl (lv_at hl 0 rfl) ?_
  refine lv_iconst (v := 1) hx hb dX8_degree_12 (by decide) ?_
  refine r_callVi (As := [.int 1]) (rest := []) (wr := []) F hK hP hD hS hA hO hE (c_X8_refuse hO b q 1) k_550 kv_X8_refuse 1 rfl (by decide +kernel) ⟨Nat.le_of_ble_eq_true rfl, Nat.le_of_ble_eq_true rfl⟩ [0] [] rfl rfl (by decide) (by decide) (by decide) 0 8 rfl rfl rfl hl.1 rfl (Nat.le_of_ble_eq_true rfl) dX8_degree_13 ⟨Nat.le_of_ble_eq_true rfl, Nat.le_of_ble_eq_true rfl⟩ (w1 := fun u3 => []) (fun _ => rfl) (fun r4 u3 H locs hp hP hD hS => ?_)
  subst hp
  refine lv_pop hx hb dX8_degree_16 rfl ?_
  refine lv_sipush (v := (-1000)) hx hb dX8_degree_17 (by decide) ?_
  exact ret (-1000) (fun _ => 0, fun _ _ => 0) _ _ _ _ _ _ rfl rfl (bw_subP (isC := []) hP rfl) (hD.sub [] (by decide) rfl) hS (Nat.le_of_ble_eq_true rfl) (Nat.le_of_ble_eq_true rfl) dX8_degree_20
theorem dX8_first_0 : decode cX8_first 0 = .ok (.aload_n 0, 1) := by decide +kernel
theorem dX8_first_1 : decode cX8_first 1 = .ok (.getfield 31, 3) := by decide +kernel
theorem dX8_first_4 : decode cX8_first 4 = .ok (.iload_n 2, 1) := by decide +kernel
theorem dX8_first_5 : decode cX8_first 5 = .ok (.invokevirtual 236, 3) := by decide +kernel
theorem dX8_first_8 : decode cX8_first 8 = .ok (.ifCond .ne 9, 3) := by decide +kernel
theorem dX8_first_11 : decode cX8_first 11 = .ok (.aload_n 0, 1) := by decide +kernel
theorem dX8_first_12 : decode cX8_first 12 = .ok (.iconst 1, 1) := by decide +kernel
theorem dX8_first_13 : decode cX8_first 13 = .ok (.invokevirtual 92, 3) := by decide +kernel
theorem dX8_first_16 : decode cX8_first 16 = .ok (.ireturn, 1) := by decide +kernel
abbrev rm_X8_first : Room := { frames := 1, cells := 0, slots := 0, locals := 21 }
set_option maxRecDepth 100000 in
set_option maxHeartbeats 4000000 in
theorem c_X8_first {l : Launch} {E : (Nat → Prop) → State → Prop} (hO : bw_Ok E) {G : va_G} {cI cB cJ cN cW : ClassId} (b : Nat) (q : Nat → Nat) (x : Int32) (y : Int32) : bw_Ci (S := bw_U) l yX8_first (bw_ws (Cond.code yX8_first cX8_first 3 (some .int))) rm_X8_first E G (bw_kt cI cB cJ cN cW) [.ref b, .int x, .int y] [(b, .inr (8, [.int 0, .int 0, .ref (q 0), .ref (q 1), .ref (q 2), .ref (q 3), .ref (q 4), .ref (q 5), .ref (q 6), .ref (q 7), .ref (q 8), .ref (q 9), .ref (q 10), .ref (q 11)])), ((q 2), .inr (2, [.int 0, .ref (q 40), .ref (q 41), .ref (q 42), .ref (q 43), .ref (q 44), .ref (q 45), .ref (q 46), .ref (q 47)]))] (fun r _ => r = -1) (fun _ => []) := by
  refine bw_Ci.of (cc := cX8_first) (maxL := 3) (ty := .int) (by decide) rfl (Nat.le_of_ble_eq_true rfl) ?_
  intro p e s m below meth c A Q hx hb hml hts hown hin hK hA hS hP hD hE ret ls hl
  have F : CallFix p m c cX8_first 3 s ([.ref b, .int x, .int y] : List Value).toArray bw_T RX8 := ⟨hx, hb, hml, hown, fun w h => hts w (List.mem_cons_of_mem _ h)⟩
  have hl : lv_has ls 3 [(0, .ref b), (1, .int x), (2, .int y)] := hl
  refine lv_aload_n hx hb dX8_first_0 rfl (lv_at hl 0 rfl) ?_
  refine r_get F hK hP 0 4 rfl rfl in_X8 (by decide) k_499 rfl dX8_first_1 ?_
  refine lv_iload_n hx hb dX8_first_4 rfl (lv_at hl 2 rfl) ?_
  refine r_callVi (As := [.int y]) (rest := []) (wr := [(b, .inr (8, [.int 0, .int 0, .ref (q 0), .ref (q 1), .ref (q 2), .ref (q 3), .ref (q 4), .ref (q 5), .ref (q 6), .ref (q 7), .ref (q 8), .ref (q 9), .ref (q 10), .ref (q 11)]))]) F hK hP hD hS hA hO hE (c_X2_hasLine hO (q 2) q y) k_883 kv_X2_hasLine 1 rfl (by decide +kernel) ⟨Nat.le_of_ble_eq_true rfl, Nat.le_of_ble_eq_true rfl⟩ [1] [0] rfl rfl (by decide) (by decide) (by decide) 0 2 rfl rfl rfl hl.1 rfl (Nat.le_of_ble_eq_true rfl) dX8_first_5 ⟨Nat.le_of_ble_eq_true rfl, Nat.le_of_ble_eq_true rfl⟩ (w1 := fun u1 => [(b, .inr (8, [.int 0, .int 0, .ref (q 0), .ref (q 1), .ref (q 2), .ref (q 3), .ref (q 4), .ref (q 5), .ref (q 6), .ref (q 7), .ref (q 8), .ref (q 9), .ref (q 10), .ref (q 11)]))]) (fun _ => rfl) (fun r2 u1 H locs hp hP hD hS => ?_)
  subst hp
  refine lv_if_ne (tgt := 17) hx hb dX8_first_8 (by decide) (fun h9 => absurd (by decide) h9) (fun _ => ?_)
  refine lv_aload_n hx hb dX8_first_11 rfl (lv_at hl 0 rfl) ?_
  refine lv_iconst (v := 1) hx hb dX8_first_12 (by decide) ?_
  refine r_callVi (As := [.int 1]) (rest := []) (wr := []) F hK hP hD hS hA hO hE (c_X8_refuse hO b q 1) k_550 kv_X8_refuse 1 rfl (by decide +kernel) ⟨Nat.le_of_ble_eq_true rfl, Nat.le_of_ble_eq_true rfl⟩ [0] [] rfl rfl (by decide) (by decide) (by decide) 0 8 rfl rfl rfl hl.1 rfl (Nat.le_of_ble_eq_true rfl) dX8_first_13 ⟨Nat.le_of_ble_eq_true rfl, Nat.le_of_ble_eq_true rfl⟩ (w1 := fun u3 => []) (fun _ => rfl) (fun r4 u3 H locs hp hP hD hS => ?_)
  subst hp
  exact ret (-1) (fun _ => 0, fun _ _ => 0) _ _ _ _ _ _ rfl rfl (bw_subP (isC := []) hP rfl) (hD.sub [] (by decide) rfl) hS (Nat.le_of_ble_eq_true rfl) (Nat.le_of_ble_eq_true rfl) dX8_first_16
theorem dX8_most_0 : decode cX8_most 0 = .ok (.aload_n 0, 1) := by decide +kernel
theorem dX8_most_1 : decode cX8_most 1 = .ok (.getfield 31, 3) := by decide +kernel
theorem dX8_most_4 : decode cX8_most 4 = .ok (.iload_n 2, 1) := by decide +kernel
theorem dX8_most_5 : decode cX8_most 5 = .ok (.invokevirtual 162, 3) := by decide +kernel
theorem dX8_most_8 : decode cX8_most 8 = .ok (.ifCond .ne 9, 3) := by decide +kernel
theorem dX8_most_11 : decode cX8_most 11 = .ok (.aload_n 0, 1) := by decide +kernel
theorem dX8_most_12 : decode cX8_most 12 = .ok (.iconst 1, 1) := by decide +kernel
theorem dX8_most_13 : decode cX8_most 13 = .ok (.invokevirtual 92, 3) := by decide +kernel
theorem dX8_most_16 : decode cX8_most 16 = .ok (.ireturn, 1) := by decide +kernel
abbrev rm_X8_most : Room := { frames := 1, cells := 0, slots := 0, locals := 21 }
set_option maxRecDepth 100000 in
set_option maxHeartbeats 4000000 in
theorem c_X8_most {l : Launch} {E : (Nat → Prop) → State → Prop} (hO : bw_Ok E) {G : va_G} {cI cB cJ cN cW : ClassId} (b : Nat) (q : Nat → Nat) (x : Int32) (y : Int32) : bw_Ci (S := bw_U) l yX8_most (bw_ws (Cond.code yX8_most cX8_most 3 (some .int))) rm_X8_most E G (bw_kt cI cB cJ cN cW) [.ref b, .int x, .int y] [(b, .inr (8, [.int 0, .int 0, .ref (q 0), .ref (q 1), .ref (q 2), .ref (q 3), .ref (q 4), .ref (q 5), .ref (q 6), .ref (q 7), .ref (q 8), .ref (q 9), .ref (q 10), .ref (q 11)])), ((q 2), .inr (2, [.int 0, .ref (q 40), .ref (q 41), .ref (q 42), .ref (q 43), .ref (q 44), .ref (q 45), .ref (q 46), .ref (q 47)])), ((q 47), .inl (cI, 20, .inl (fun _ => 0)))] (fun r _ => r = -1) (fun _ => []) := by
  refine bw_Ci.of (cc := cX8_most) (maxL := 3) (ty := .int) (by decide) rfl (Nat.le_of_ble_eq_true rfl) ?_
  intro p e s m below meth c A Q hx hb hml hts hown hin hK hA hS hP hD hE ret ls hl
  have F : CallFix p m c cX8_most 3 s ([.ref b, .int x, .int y] : List Value).toArray bw_T RX8 := ⟨hx, hb, hml, hown, fun w h => hts w (List.mem_cons_of_mem _ h)⟩
  have hl : lv_has ls 3 [(0, .ref b), (1, .int x), (2, .int y)] := hl
  refine lv_aload_n hx hb dX8_most_0 rfl (lv_at hl 0 rfl) ?_
  refine r_get F hK hP 0 4 rfl rfl in_X8 (by decide) k_499 rfl dX8_most_1 ?_
  refine lv_iload_n hx hb dX8_most_4 rfl (lv_at hl 2 rfl) ?_
  refine r_callVi (As := [.int y]) (rest := []) (wr := [(b, .inr (8, [.int 0, .int 0, .ref (q 0), .ref (q 1), .ref (q 2), .ref (q 3), .ref (q 4), .ref (q 5), .ref (q 6), .ref (q 7), .ref (q 8), .ref (q 9), .ref (q 10), .ref (q 11)]))]) F hK hP hD hS hA hO hE (c_X2_hasWay hO (q 2) q y) k_726 kv_X2_hasWay 1 rfl (by decide +kernel) ⟨Nat.le_of_ble_eq_true rfl, Nat.le_of_ble_eq_true rfl⟩ [1, 2] [0] rfl rfl (by decide) (by decide) (by decide) 0 2 rfl rfl rfl hl.1 rfl (Nat.le_of_ble_eq_true rfl) dX8_most_5 ⟨Nat.le_of_ble_eq_true rfl, Nat.le_of_ble_eq_true rfl⟩ (w1 := fun u1 => [(b, .inr (8, [.int 0, .int 0, .ref (q 0), .ref (q 1), .ref (q 2), .ref (q 3), .ref (q 4), .ref (q 5), .ref (q 6), .ref (q 7), .ref (q 8), .ref (q 9), .ref (q 10), .ref (q 11)]))]) (fun _ => rfl) (fun r2 u1 H locs hp hP hD hS => ?_)
  subst hp
  refine lv_if_ne (tgt := 17) hx hb dX8_most_8 (by decide) (fun h9 => absurd (by decide) h9) (fun _ => ?_)
  refine lv_aload_n hx hb dX8_most_11 rfl (lv_at hl 0 rfl) ?_
  refine lv_iconst (v := 1) hx hb dX8_most_12 (by decide) ?_
  refine r_callVi (As := [.int 1]) (rest := []) (wr := []) F hK hP hD hS hA hO hE (c_X8_refuse hO b q 1) k_550 kv_X8_refuse 1 rfl (by decide +kernel) ⟨Nat.le_of_ble_eq_true rfl, Nat.le_of_ble_eq_true rfl⟩ [0] [] rfl rfl (by decide) (by decide) (by decide) 0 8 rfl rfl rfl hl.1 rfl (Nat.le_of_ble_eq_true rfl) dX8_most_13 ⟨Nat.le_of_ble_eq_true rfl, Nat.le_of_ble_eq_true rfl⟩ (w1 := fun u3 => []) (fun _ => rfl) (fun r4 u3 H locs hp hP hD hS => ?_)
  subst hp
  exact ret (-1) (fun _ => 0, fun _ _ => 0) _ _ _ _ _ _ rfl rfl (bw_subP (isC := []) hP rfl) (hD.sub [] (by decide) rfl) hS (Nat.le_of_ble_eq_true rfl) (Nat.le_of_ble_eq_true rfl) dX8_most_16
theorem dX8_spare_0 : decode cX8_spare 0 = .ok (.aload_n 0, 1) := by decide +kernel
theorem dX8_spare_1 : decode cX8_spare 1 = .ok (.getfield 31, 3) := by decide +kernel
theorem dX8_spare_4 : decode cX8_spare 4 = .ok (.iload_n 2, 1) := by decide +kernel
theorem dX8_spare_5 : decode cX8_spare 5 = .ok (.invokevirtual 162, 3) := by decide +kernel
theorem dX8_spare_8 : decode cX8_spare 8 = .ok (.ifCond .ne 9, 3) := by decide +kernel
theorem dX8_spare_11 : decode cX8_spare 11 = .ok (.aload_n 0, 1) := by decide +kernel
theorem dX8_spare_12 : decode cX8_spare 12 = .ok (.iconst 1, 1) := by decide +kernel
theorem dX8_spare_13 : decode cX8_spare 13 = .ok (.invokevirtual 92, 3) := by decide +kernel
theorem dX8_spare_16 : decode cX8_spare 16 = .ok (.ireturn, 1) := by decide +kernel
abbrev rm_X8_spare : Room := { frames := 1, cells := 0, slots := 0, locals := 21 }
set_option maxRecDepth 100000 in
set_option maxHeartbeats 4000000 in
theorem c_X8_spare {l : Launch} {E : (Nat → Prop) → State → Prop} (hO : bw_Ok E) {G : va_G} {cI cB cJ cN cW : ClassId} (b : Nat) (q : Nat → Nat) (x : Int32) (y : Int32) : bw_Ci (S := bw_U) l yX8_spare (bw_ws (Cond.code yX8_spare cX8_spare 3 (some .int))) rm_X8_spare E G (bw_kt cI cB cJ cN cW) [.ref b, .int x, .int y] [(b, .inr (8, [.int 0, .int 0, .ref (q 0), .ref (q 1), .ref (q 2), .ref (q 3), .ref (q 4), .ref (q 5), .ref (q 6), .ref (q 7), .ref (q 8), .ref (q 9), .ref (q 10), .ref (q 11)])), ((q 2), .inr (2, [.int 0, .ref (q 40), .ref (q 41), .ref (q 42), .ref (q 43), .ref (q 44), .ref (q 45), .ref (q 46), .ref (q 47)])), ((q 47), .inl (cI, 20, .inl (fun _ => 0)))] (fun r _ => r = -1) (fun _ => []) := by
  refine bw_Ci.of (cc := cX8_spare) (maxL := 3) (ty := .int) (by decide) rfl (Nat.le_of_ble_eq_true rfl) ?_
  intro p e s m below meth c A Q hx hb hml hts hown hin hK hA hS hP hD hE ret ls hl
  have F : CallFix p m c cX8_spare 3 s ([.ref b, .int x, .int y] : List Value).toArray bw_T RX8 := ⟨hx, hb, hml, hown, fun w h => hts w (List.mem_cons_of_mem _ h)⟩
  have hl : lv_has ls 3 [(0, .ref b), (1, .int x), (2, .int y)] := hl
  refine lv_aload_n hx hb dX8_spare_0 rfl (lv_at hl 0 rfl) ?_
  refine r_get F hK hP 0 4 rfl rfl in_X8 (by decide) k_499 rfl dX8_spare_1 ?_
  refine lv_iload_n hx hb dX8_spare_4 rfl (lv_at hl 2 rfl) ?_
  refine r_callVi (As := [.int y]) (rest := []) (wr := [(b, .inr (8, [.int 0, .int 0, .ref (q 0), .ref (q 1), .ref (q 2), .ref (q 3), .ref (q 4), .ref (q 5), .ref (q 6), .ref (q 7), .ref (q 8), .ref (q 9), .ref (q 10), .ref (q 11)]))]) F hK hP hD hS hA hO hE (c_X2_hasWay hO (q 2) q y) k_726 kv_X2_hasWay 1 rfl (by decide +kernel) ⟨Nat.le_of_ble_eq_true rfl, Nat.le_of_ble_eq_true rfl⟩ [1, 2] [0] rfl rfl (by decide) (by decide) (by decide) 0 2 rfl rfl rfl hl.1 rfl (Nat.le_of_ble_eq_true rfl) dX8_spare_5 ⟨Nat.le_of_ble_eq_true rfl, Nat.le_of_ble_eq_true rfl⟩ (w1 := fun u1 => [(b, .inr (8, [.int 0, .int 0, .ref (q 0), .ref (q 1), .ref (q 2), .ref (q 3), .ref (q 4), .ref (q 5), .ref (q 6), .ref (q 7), .ref (q 8), .ref (q 9), .ref (q 10), .ref (q 11)]))]) (fun _ => rfl) (fun r2 u1 H locs hp hP hD hS => ?_)
  subst hp
  refine lv_if_ne (tgt := 17) hx hb dX8_spare_8 (by decide) (fun h9 => absurd (by decide) h9) (fun _ => ?_)
  refine lv_aload_n hx hb dX8_spare_11 rfl (lv_at hl 0 rfl) ?_
  refine lv_iconst (v := 1) hx hb dX8_spare_12 (by decide) ?_
  refine r_callVi (As := [.int 1]) (rest := []) (wr := []) F hK hP hD hS hA hO hE (c_X8_refuse hO b q 1) k_550 kv_X8_refuse 1 rfl (by decide +kernel) ⟨Nat.le_of_ble_eq_true rfl, Nat.le_of_ble_eq_true rfl⟩ [0] [] rfl rfl (by decide) (by decide) (by decide) 0 8 rfl rfl rfl hl.1 rfl (Nat.le_of_ble_eq_true rfl) dX8_spare_13 ⟨Nat.le_of_ble_eq_true rfl, Nat.le_of_ble_eq_true rfl⟩ (w1 := fun u3 => []) (fun _ => rfl) (fun r4 u3 H locs hp hP hD hS => ?_)
  subst hp
  exact ret (-1) (fun _ => 0, fun _ _ => 0) _ _ _ _ _ _ rfl rfl (bw_subP (isC := []) hP rfl) (hD.sub [] (by decide) rfl) hS (Nat.le_of_ble_eq_true rfl) (Nat.le_of_ble_eq_true rfl) dX8_spare_16
theorem dX8_alike_0 : decode cX8_alike 0 = .ok (.aload_n 0, 1) := by decide +kernel
theorem dX8_alike_1 : decode cX8_alike 1 = .ok (.iload_n 1, 1) := by decide +kernel
theorem dX8_alike_2 : decode cX8_alike 2 = .ok (.iload_n 2, 1) := by decide +kernel
theorem dX8_alike_3 : decode cX8_alike 3 = .ok (.invokevirtual 270, 3) := by decide +kernel
theorem k_961 : Cond.methodLink RX8 270 yX8_isPair ∈ bw_T := bw_m 961 (by decide +kernel) rfl
theorem kv_X8_isPair : bw_KV RX8 yX8_isPair (Cond.code yX8_isPair cX8_isPair 3 (some .boolean)) := ⟨bw_m 963 (by decide +kernel) rfl, bw_m 35 (by decide +kernel) rfl, bw_m 94 (by decide +kernel) rfl, bw_m 964 (by decide +kernel) rfl⟩
theorem dX8_alike_6 : decode cX8_alike 6 = .ok (.ifCond .ne 9, 3) := by decide +kernel
theorem dX8_alike_9 : decode cX8_alike 9 = .ok (.aload_n 0, 1) := by decide +kernel
theorem dX8_alike_10 : decode cX8_alike 10 = .ok (.iconst 1, 1) := by decide +kernel
theorem dX8_alike_11 : decode cX8_alike 11 = .ok (.invokevirtual 92, 3) := by decide +kernel
theorem dX8_alike_14 : decode cX8_alike 14 = .ok (.ireturn, 1) := by decide +kernel
abbrev rm_X8_alike : Room := { frames := 2, cells := 0, slots := 0, locals := 43 }
set_option maxRecDepth 100000 in
set_option maxHeartbeats 4000000 in
theorem c_X8_alike {l : Launch} {E : (Nat → Prop) → State → Prop} (hO : bw_Ok E) {G : va_G} {cI cB cJ cN cW : ClassId} (b : Nat) (q : Nat → Nat) (x : Int32) (y : Int32) : bw_Ci (S := bw_U) l yX8_alike (bw_ws (Cond.code yX8_alike cX8_alike 3 (some .int))) rm_X8_alike E G (bw_kt cI cB cJ cN cW) [.ref b, .int x, .int y] [(b, .inr (8, [.int 0, .int 0, .ref (q 0), .ref (q 1), .ref (q 2), .ref (q 3), .ref (q 4), .ref (q 5), .ref (q 6), .ref (q 7), .ref (q 8), .ref (q 9), .ref (q 10), .ref (q 11)])), ((q 2), .inr (2, [.int 0, .ref (q 40), .ref (q 41), .ref (q 42), .ref (q 43), .ref (q 44), .ref (q 45), .ref (q 46), .ref (q 47)]))] (fun r _ => r = -1) (fun _ => []) := by
  refine bw_Ci.of (cc := cX8_alike) (maxL := 3) (ty := .int) (by decide) rfl (Nat.le_of_ble_eq_true rfl) ?_
  intro p e s m below meth c A Q hx hb hml hts hown hin hK hA hS hP hD hE ret ls hl
  have F : CallFix p m c cX8_alike 3 s ([.ref b, .int x, .int y] : List Value).toArray bw_T RX8 := ⟨hx, hb, hml, hown, fun w h => hts w (List.mem_cons_of_mem _ h)⟩
  have hl : lv_has ls 3 [(0, .ref b), (1, .int x), (2, .int y)] := hl
  refine lv_aload_n hx hb dX8_alike_0 rfl (lv_at hl 0 rfl) ?_
  refine lv_iload_n hx hb dX8_alike_1 rfl (lv_at hl 1 rfl) ?_
  refine lv_iload_n hx hb dX8_alike_2 rfl (lv_at hl 2 rfl) ?_
  refine r_callVi (As := [.int x, .int y]) (rest := []) (wr := []) F hK hP hD hS hA hO hE (c_X8_isPair hO b q x y) k_961 kv_X8_isPair 2 rfl (by decide +kernel) ⟨Nat.le_of_ble_eq_true rfl, Nat.le_of_ble_eq_true rfl⟩ [0, 1] [] rfl rfl (by decide) (by decide) (by decide) 0 8 rfl rfl rfl hl.1 rfl (Nat.le_of_ble_eq_true rfl) dX8_alike_3 ⟨Nat.le_of_ble_eq_true rfl, Nat.le_of_ble_eq_true rfl⟩ (w1 := fun u1 => [(b, .inr (8, [.int 0, .int 0, .ref (q 0), .ref (q 1), .ref (q 2), .ref (q 3), .ref (q 4), .ref (q 5), .ref (q 6), .ref (q 7), .ref (q 8), .ref (q 9), .ref (q 10), .ref (q 11)]))]) (fun _ => rfl) (fun r2 u1 H locs hp hP hD hS => ?_)
  subst hp
  refine lv_if_ne (tgt := 15) hx hb dX8_alike_6 (by decide) (fun h9 => absurd (by decide) h9) (fun _ => ?_)
  refine lv_aload_n hx hb dX8_alike_9 rfl (lv_at hl 0 rfl) ?_
  refine lv_iconst (v := 1) hx hb dX8_alike_10 (by decide) ?_
  refine r_callVi (As := [.int 1]) (rest := []) (wr := []) F hK hP hD hS hA hO hE (c_X8_refuse hO b q 1) k_550 kv_X8_refuse 1 rfl (by decide +kernel) ⟨Nat.le_of_ble_eq_true rfl, Nat.le_of_ble_eq_true rfl⟩ [0] [] rfl rfl (by decide) (by decide) (by decide) 0 8 rfl rfl rfl hl.1 rfl (Nat.le_of_ble_eq_true rfl) dX8_alike_11 ⟨Nat.le_of_ble_eq_true rfl, Nat.le_of_ble_eq_true rfl⟩ (w1 := fun u3 => []) (fun _ => rfl) (fun r4 u3 H locs hp hP hD hS => ?_)
  subst hp
  exact ret (-1) (fun _ => 0, fun _ _ => 0) _ _ _ _ _ _ rfl rfl (bw_subP (isC := []) hP rfl) (hD.sub [] (by decide) rfl) hS (Nat.le_of_ble_eq_true rfl) (Nat.le_of_ble_eq_true rfl) dX8_alike_14
theorem dX8_unfair_0 : decode cX8_unfair 0 = .ok (.aload_n 0, 1) := by decide +kernel
theorem dX8_unfair_1 : decode cX8_unfair 1 = .ok (.iload_n 1, 1) := by decide +kernel
theorem dX8_unfair_2 : decode cX8_unfair 2 = .ok (.iload_n 2, 1) := by decide +kernel
theorem dX8_unfair_3 : decode cX8_unfair 3 = .ok (.invokevirtual 270, 3) := by decide +kernel
theorem dX8_unfair_6 : decode cX8_unfair 6 = .ok (.ifCond .ne 9, 3) := by decide +kernel
theorem dX8_unfair_9 : decode cX8_unfair 9 = .ok (.aload_n 0, 1) := by decide +kernel
theorem dX8_unfair_10 : decode cX8_unfair 10 = .ok (.iconst 1, 1) := by decide +kernel
theorem dX8_unfair_11 : decode cX8_unfair 11 = .ok (.invokevirtual 92, 3) := by decide +kernel
theorem dX8_unfair_14 : decode cX8_unfair 14 = .ok (.ireturn, 1) := by decide +kernel
abbrev rm_X8_unfair : Room := { frames := 2, cells := 0, slots := 0, locals := 43 }
set_option maxRecDepth 100000 in
set_option maxHeartbeats 4000000 in
theorem c_X8_unfair {l : Launch} {E : (Nat → Prop) → State → Prop} (hO : bw_Ok E) {G : va_G} {cI cB cJ cN cW : ClassId} (b : Nat) (q : Nat → Nat) (x : Int32) (y : Int32) (z : Int32) : bw_Ci (S := bw_U) l yX8_unfair (bw_ws (Cond.code yX8_unfair cX8_unfair 4 (some .int))) rm_X8_unfair E G (bw_kt cI cB cJ cN cW) [.ref b, .int x, .int y, .int z] [(b, .inr (8, [.int 0, .int 0, .ref (q 0), .ref (q 1), .ref (q 2), .ref (q 3), .ref (q 4), .ref (q 5), .ref (q 6), .ref (q 7), .ref (q 8), .ref (q 9), .ref (q 10), .ref (q 11)])), ((q 2), .inr (2, [.int 0, .ref (q 40), .ref (q 41), .ref (q 42), .ref (q 43), .ref (q 44), .ref (q 45), .ref (q 46), .ref (q 47)]))] (fun r _ => r = -1) (fun _ => []) := by
  refine bw_Ci.of (cc := cX8_unfair) (maxL := 4) (ty := .int) (by decide) rfl (Nat.le_of_ble_eq_true rfl) ?_
  intro p e s m below meth c A Q hx hb hml hts hown hin hK hA hS hP hD hE ret ls hl
  have F : CallFix p m c cX8_unfair 4 s ([.ref b, .int x, .int y, .int z] : List Value).toArray bw_T RX8 := ⟨hx, hb, hml, hown, fun w h => hts w (List.mem_cons_of_mem _ h)⟩
  have hl : lv_has ls 4 [(0, .ref b), (1, .int x), (2, .int y), (3, .int z)] := hl
  refine lv_aload_n hx hb dX8_unfair_0 rfl (lv_at hl 0 rfl) ?_
  refine lv_iload_n hx hb dX8_unfair_1 rfl (lv_at hl 1 rfl) ?_
  refine lv_iload_n hx hb dX8_unfair_2 rfl (lv_at hl 2 rfl) ?_
  refine r_callVi (As := [.int x, .int y]) (rest := []) (wr := []) F hK hP hD hS hA hO hE (c_X8_isPair hO b q x y) k_961 kv_X8_isPair 2 rfl (by decide +kernel) ⟨Nat.le_of_ble_eq_true rfl, Nat.le_of_ble_eq_true rfl⟩ [0, 1] [] rfl rfl (by decide) (by decide) (by decide) 0 8 rfl rfl rfl hl.1 rfl (Nat.le_of_ble_eq_true rfl) dX8_unfair_3 ⟨Nat.le_of_ble_eq_true rfl, Nat.le_of_ble_eq_true rfl⟩ (w1 := fun u1 => [(b, .inr (8, [.int 0, .int 0, .ref (q 0), .ref (q 1), .ref (q 2), .ref (q 3), .ref (q 4), .ref (q 5), .ref (q 6), .ref (q 7), .ref (q 8), .ref (q 9), .ref (q 10), .ref (q 11)]))]) (fun _ => rfl) (fun r2 u1 H locs hp hP hD hS => ?_)
  subst hp
  refine lv_if_ne (tgt := 15) hx hb dX8_unfair_6 (by decide) (fun h9 => absurd (by decide) h9) (fun _ => ?_)
  refine lv_aload_n hx hb dX8_unfair_9 rfl (lv_at hl 0 rfl) ?_
  refine lv_iconst (v := 1) hx hb dX8_unfair_10 (by decide) ?_
  refine r_callVi (As := [.int 1]) (rest := []) (wr := []) F hK hP hD hS hA hO hE (c_X8_refuse hO b q 1) k_550 kv_X8_refuse 1 rfl (by decide +kernel) ⟨Nat.le_of_ble_eq_true rfl, Nat.le_of_ble_eq_true rfl⟩ [0] [] rfl rfl (by decide) (by decide) (by decide) 0 8 rfl rfl rfl hl.1 rfl (Nat.le_of_ble_eq_true rfl) dX8_unfair_11 ⟨Nat.le_of_ble_eq_true rfl, Nat.le_of_ble_eq_true rfl⟩ (w1 := fun u3 => []) (fun _ => rfl) (fun r4 u3 H locs hp hP hD hS => ?_)
  subst hp
  exact ret (-1) (fun _ => 0, fun _ _ => 0) _ _ _ _ _ _ rfl rfl (bw_subP (isC := []) hP rfl) (hD.sub [] (by decide) rfl) hS (Nat.le_of_ble_eq_true rfl) (Nat.le_of_ble_eq_true rfl) dX8_unfair_14
theorem dX8_line_0 : decode cX8_line 0 = .ok (.aload_n 0, 1) := by decide +kernel
theorem dX8_line_1 : decode cX8_line 1 = .ok (.getfield 31, 3) := by decide +kernel
theorem dX8_line_4 : decode cX8_line 4 = .ok (.iload_n 1, 1) := by decide +kernel
theorem dX8_line_5 : decode cX8_line 5 = .ok (.invokevirtual 236, 3) := by decide +kernel
theorem dX8_line_8 : decode cX8_line 8 = .ok (.ifCond .eq 13, 3) := by decide +kernel
theorem dX8_line_21 : decode cX8_line 21 = .ok (.aload_n 0, 1) := by decide +kernel
theorem dX8_line_22 : decode cX8_line 22 = .ok (.iconst 1, 1) := by decide +kernel
theorem dX8_line_23 : decode cX8_line 23 = .ok (.invokevirtual 92, 3) := by decide +kernel
theorem dX8_line_26 : decode cX8_line 26 = .ok (.ireturn, 1) := by decide +kernel
abbrev rm_X8_line : Room := { frames := 1, cells := 0, slots := 0, locals := 21 }
set_option maxRecDepth 100000 in
set_option maxHeartbeats 4000000 in
theorem c_X8_line {l : Launch} {E : (Nat → Prop) → State → Prop} (hO : bw_Ok E) {G : va_G} {cI cB cJ cN cW : ClassId} (b : Nat) (q : Nat → Nat) (x : Int32) (y : Int32) : bw_Ci (S := bw_U) l yX8_line (bw_ws (Cond.code yX8_line cX8_line 3 (some .int))) rm_X8_line E G (bw_kt cI cB cJ cN cW) [.ref b, .int x, .int y] [(b, .inr (8, [.int 0, .int 0, .ref (q 0), .ref (q 1), .ref (q 2), .ref (q 3), .ref (q 4), .ref (q 5), .ref (q 6), .ref (q 7), .ref (q 8), .ref (q 9), .ref (q 10), .ref (q 11)])), ((q 2), .inr (2, [.int 0, .ref (q 40), .ref (q 41), .ref (q 42), .ref (q 43), .ref (q 44), .ref (q 45), .ref (q 46), .ref (q 47)]))] (fun r _ => r = -1) (fun _ => []) := by
  refine bw_Ci.of (cc := cX8_line) (maxL := 3) (ty := .int) (by decide) rfl (Nat.le_of_ble_eq_true rfl) ?_
  intro p e s m below meth c A Q hx hb hml hts hown hin hK hA hS hP hD hE ret ls hl
  have F : CallFix p m c cX8_line 3 s ([.ref b, .int x, .int y] : List Value).toArray bw_T RX8 := ⟨hx, hb, hml, hown, fun w h => hts w (List.mem_cons_of_mem _ h)⟩
  have hl : lv_has ls 3 [(0, .ref b), (1, .int x), (2, .int y)] := hl
  refine lv_aload_n hx hb dX8_line_0 rfl (lv_at hl 0 rfl) ?_
  refine r_get F hK hP 0 4 rfl rfl in_X8 (by decide) k_499 rfl dX8_line_1 ?_
  refine lv_iload_n hx hb dX8_line_4 rfl (lv_at hl 1 rfl) ?_
  refine r_callVi (As := [.int x]) (rest := []) (wr := [(b, .inr (8, [.int 0, .int 0, .ref (q 0), .ref (q 1), .ref (q 2), .ref (q 3), .ref (q 4), .ref (q 5), .ref (q 6), .ref (q 7), .ref (q 8), .ref (q 9), .ref (q 10), .ref (q 11)]))]) F hK hP hD hS hA hO hE (c_X2_hasLine hO (q 2) q x) k_883 kv_X2_hasLine 1 rfl (by decide +kernel) ⟨Nat.le_of_ble_eq_true rfl, Nat.le_of_ble_eq_true rfl⟩ [1] [0] rfl rfl (by decide) (by decide) (by decide) 0 2 rfl rfl rfl hl.1 rfl (Nat.le_of_ble_eq_true rfl) dX8_line_5 ⟨Nat.le_of_ble_eq_true rfl, Nat.le_of_ble_eq_true rfl⟩ (w1 := fun u1 => [(b, .inr (8, [.int 0, .int 0, .ref (q 0), .ref (q 1), .ref (q 2), .ref (q 3), .ref (q 4), .ref (q 5), .ref (q 6), .ref (q 7), .ref (q 8), .ref (q 9), .ref (q 10), .ref (q 11)]))]) (fun _ => rfl) (fun r2 u1 H locs hp hP hD hS => ?_)
  subst hp
  refine lv_if_eq (tgt := 21) hx hb dX8_line_8 (by decide) (fun _ => ?_) (fun h9 => absurd (by decide) h9)
  refine lv_aload_n hx hb dX8_line_21 rfl (lv_at hl 0 rfl) ?_
  refine lv_iconst (v := 1) hx hb dX8_line_22 (by decide) ?_
  refine r_callVi (As := [.int 1]) (rest := []) (wr := []) F hK hP hD hS hA hO hE (c_X8_refuse hO b q 1) k_550 kv_X8_refuse 1 rfl (by decide +kernel) ⟨Nat.le_of_ble_eq_true rfl, Nat.le_of_ble_eq_true rfl⟩ [0] [] rfl rfl (by decide) (by decide) (by decide) 0 8 rfl rfl rfl hl.1 rfl (Nat.le_of_ble_eq_true rfl) dX8_line_23 ⟨Nat.le_of_ble_eq_true rfl, Nat.le_of_ble_eq_true rfl⟩ (w1 := fun u3 => []) (fun _ => rfl) (fun r4 u3 H locs hp hP hD hS => ?_)
  subst hp
  exact ret (-1) (fun _ => 0, fun _ _ => 0) _ _ _ _ _ _ rfl rfl (bw_subP (isC := []) hP rfl) (hD.sub [] (by decide) rfl) hS (Nat.le_of_ble_eq_true rfl) (Nat.le_of_ble_eq_true rfl) dX8_line_26
theorem dX8_trouble_0 : decode cX8_trouble 0 = .ok (.aload_n 0, 1) := by decide +kernel
theorem dX8_trouble_1 : decode cX8_trouble 1 = .ok (.getfield 9, 3) := by decide +kernel
theorem dX8_trouble_4 : decode cX8_trouble 4 = .ok (.ireturn, 1) := by decide +kernel
abbrev rm_X8_trouble : Room := { frames := 0, cells := 0, slots := 0, locals := 0 }
set_option maxRecDepth 100000 in
set_option maxHeartbeats 4000000 in
theorem c_X8_trouble {l : Launch} {E : (Nat → Prop) → State → Prop} (hO : bw_Ok E) {G : va_G} {cI cB cJ cN cW : ClassId} (b : Nat) (q : Nat → Nat) : bw_Ci (S := bw_U) l yX8_trouble (bw_ws (Cond.code yX8_trouble cX8_trouble 1 (some .int))) rm_X8_trouble E G (bw_kt cI cB cJ cN cW) [.ref b] [(b, .inr (8, [.int 0, .int 0, .ref (q 0), .ref (q 1), .ref (q 2), .ref (q 3), .ref (q 4), .ref (q 5), .ref (q 6), .ref (q 7), .ref (q 8), .ref (q 9), .ref (q 10), .ref (q 11)]))] (fun r _ => r = 0) (fun _ => []) := by
  refine bw_Ci.of (cc := cX8_trouble) (maxL := 1) (ty := .int) (by decide) rfl (Nat.le_of_ble_eq_true rfl) ?_
  intro p e s m below meth c A Q hx hb hml hts hown hin hK hA hS hP hD hE ret ls hl
  have F : CallFix p m c cX8_trouble 1 s ([.ref b] : List Value).toArray bw_T RX8 := ⟨hx, hb, hml, hown, fun w h => hts w (List.mem_cons_of_mem _ h)⟩
  have hl : lv_has ls 1 [(0, .ref b)] := hl
  refine lv_aload_n hx hb dX8_trouble_0 rfl (lv_at hl 0 rfl) ?_
  refine r_get F hK hP 0 0 rfl rfl in_X8 (by decide) k_495 rfl dX8_trouble_1 ?_
  exact ret 0 (fun _ => 0, fun _ _ => 0) _ _ _ _ _ _ rfl rfl (bw_subP (isC := []) hP rfl) (hD.sub [] (by decide) rfl) hS (Nat.le_of_ble_eq_true rfl) (Nat.le_of_ble_eq_true rfl) dX8_trouble_4
theorem dX8_where_0 : decode cX8_where 0 = .ok (.aload_n 0, 1) := by decide +kernel
theorem dX8_where_1 : decode cX8_where 1 = .ok (.getfield 9, 3) := by decide +kernel
theorem dX8_where_4 : decode cX8_where 4 = .ok (.iconst 4, 1) := by decide +kernel
theorem dX8_where_5 : decode cX8_where 5 = .ok (.if_icmp .ne 13, 3) := by decide +kernel
theorem dX8_where_18 : decode cX8_where 18 = .ok (.iconst (-1), 1) := by decide +kernel
theorem dX8_where_19 : decode cX8_where 19 = .ok (.ireturn, 1) := by decide +kernel
abbrev rm_X8_where : Room := { frames := 0, cells := 0, slots := 0, locals := 0 }
set_option maxRecDepth 100000 in
set_option maxHeartbeats 4000000 in
theorem c_X8_where {l : Launch} {E : (Nat → Prop) → State → Prop} (hO : bw_Ok E) {G : va_G} {cI cB cJ cN cW : ClassId} (b : Nat) (q : Nat → Nat) : bw_Ci (S := bw_U) l yX8_where (bw_ws (Cond.code yX8_where cX8_where 1 (some .int))) rm_X8_where E G (bw_kt cI cB cJ cN cW) [.ref b] [(b, .inr (8, [.int 0, .int 0, .ref (q 0), .ref (q 1), .ref (q 2), .ref (q 3), .ref (q 4), .ref (q 5), .ref (q 6), .ref (q 7), .ref (q 8), .ref (q 9), .ref (q 10), .ref (q 11)]))] (fun r _ => r = -1) (fun _ => []) := by
  refine bw_Ci.of (cc := cX8_where) (maxL := 1) (ty := .int) (by decide) rfl (Nat.le_of_ble_eq_true rfl) ?_
  intro p e s m below meth c A Q hx hb hml hts hown hin hK hA hS hP hD hE ret ls hl
  have F : CallFix p m c cX8_where 1 s ([.ref b] : List Value).toArray bw_T RX8 := ⟨hx, hb, hml, hown, fun w h => hts w (List.mem_cons_of_mem _ h)⟩
  have hl : lv_has ls 1 [(0, .ref b)] := hl
  refine lv_aload_n hx hb dX8_where_0 rfl (lv_at hl 0 rfl) ?_
  refine r_get F hK hP 0 0 rfl rfl in_X8 (by decide) k_495 rfl dX8_where_1 ?_
  refine lv_iconst (v := 4) hx hb dX8_where_4 (by decide) ?_
  refine lv_icmp_ne (tgt := 18) hx hb dX8_where_5 (by decide) (fun _ => ?_) (fun h9 => absurd h9 (by decide))
  refine lv_iconst (v := (-1)) hx hb dX8_where_18 (by decide) ?_
  exact ret (-1) (fun _ => 0, fun _ _ => 0) _ _ _ _ _ _ rfl rfl (bw_subP (isC := []) hP rfl) (hD.sub [] (by decide) rfl) hS (Nat.le_of_ble_eq_true rfl) (Nat.le_of_ble_eq_true rfl) dX8_where_19
theorem dX8_fault_0 : decode cX8_fault 0 = .ok (.aload_n 0, 1) := by decide +kernel
theorem dX8_fault_1 : decode cX8_fault 1 = .ok (.getfield 20, 3) := by decide +kernel
theorem dX8_fault_4 : decode cX8_fault 4 = .ok (.getfield 128, 3) := by decide +kernel
theorem k_269 : Cond.fieldLink RX8 128 "BurntWays$Reader" "fault" "I" ∈ bw_T := bw_m 269 (by decide +kernel) rfl
theorem dX8_fault_7 : decode cX8_fault 7 = .ok (.ireturn, 1) := by decide +kernel
abbrev rm_X8_fault : Room := { frames := 0, cells := 0, slots := 0, locals := 0 }
set_option maxRecDepth 100000 in
set_option maxHeartbeats 4000000 in
theorem c_X8_fault {l : Launch} {E : (Nat → Prop) → State → Prop} (hO : bw_Ok E) {G : va_G} {cI cB cJ cN cW : ClassId} (b : Nat) (q : Nat → Nat) : bw_Ci (S := bw_U) l yX8_fault (bw_ws (Cond.code yX8_fault cX8_fault 1 (some .int))) rm_X8_fault E G (bw_kt cI cB cJ cN cW) [.ref b] [(b, .inr (8, [.int 0, .int 0, .ref (q 0), .ref (q 1), .ref (q 2), .ref (q 3), .ref (q 4), .ref (q 5), .ref (q 6), .ref (q 7), .ref (q 8), .ref (q 9), .ref (q 10), .ref (q 11)])), ((q 0), .inr (3, [.ref (q 20), .int 0, .ref (q 21), .ref (q 22), .int 0, .int 0, .ref (q 23), .ref (q 24), .int 0, .int 24, .int 0, .int 0, .long 0, .int 0]))] (fun r _ => r = 0) (fun _ => []) := by
  refine bw_Ci.of (cc := cX8_fault) (maxL := 1) (ty := .int) (by decide) rfl (Nat.le_of_ble_eq_true rfl) ?_
  intro p e s m below meth c A Q hx hb hml hts hown hin hK hA hS hP hD hE ret ls hl
  have F : CallFix p m c cX8_fault 1 s ([.ref b] : List Value).toArray bw_T RX8 := ⟨hx, hb, hml, hown, fun w h => hts w (List.mem_cons_of_mem _ h)⟩
  have hl : lv_has ls 1 [(0, .ref b)] := hl
  refine lv_aload_n hx hb dX8_fault_0 rfl (lv_at hl 0 rfl) ?_
  refine r_get F hK hP 0 2 rfl rfl in_X8 (by decide) k_497 rfl dX8_fault_1 ?_
  refine r_get F hK hP 1 4 rfl rfl in_X3 (by decide) k_269 rfl dX8_fault_4 ?_
  exact ret 0 (fun _ => 0, fun _ _ => 0) _ _ _ _ _ _ rfl rfl (bw_subP (isC := []) hP rfl) (hD.sub [] (by decide) rfl) hS (Nat.le_of_ble_eq_true rfl) (Nat.le_of_ble_eq_true rfl) dX8_fault_7
theorem dX8_back_0 : decode cX8_back 0 = .ok (.iload_n 1, 1) := by decide +kernel
theorem dX8_back_1 : decode cX8_back 1 = .ok (.ifCond .lt 14, 3) := by decide +kernel
theorem dX8_back_15 : decode cX8_back 15 = .ok (.aload_n 0, 1) := by decide +kernel
theorem dX8_back_16 : decode cX8_back 16 = .ok (.iconst 1, 1) := by decide +kernel
theorem dX8_back_17 : decode cX8_back 17 = .ok (.invokevirtual 92, 3) := by decide +kernel
theorem dX8_back_20 : decode cX8_back 20 = .ok (.pop, 1) := by decide +kernel
theorem dX8_back_21 : decode cX8_back 21 = .ok (.iconst 0, 1) := by decide +kernel
theorem dX8_back_22 : decode cX8_back 22 = .ok (.ireturn, 1) := by decide +kernel
theorem dX8_back_4 : decode cX8_back 4 = .ok (.iload_n 1, 1) := by decide +kernel
theorem dX8_back_5 : decode cX8_back 5 = .ok (.aload_n 0, 1) := by decide +kernel
theorem dX8_back_6 : decode cX8_back 6 = .ok (.getfield 81, 3) := by decide +kernel
theorem dX8_back_9 : decode cX8_back 9 = .ok (.getfield 109, 3) := by decide +kernel
theorem k_483 : Cond.fieldLink RX8 109 "BurntWays$Marks" "count" "I" ∈ bw_T := bw_m 483 (by decide +kernel) rfl
theorem dX8_back_12 : decode cX8_back 12 = .ok (.if_icmp .lt 11, 3) := by decide +kernel
abbrev rm_X8_back : Room := { frames := 1, cells := 0, slots := 0, locals := 21 }
set_option maxRecDepth 100000 in
set_option maxHeartbeats 4000000 in
theorem c_X8_back {l : Launch} {E : (Nat → Prop) → State → Prop} (hO : bw_Ok E) {G : va_G} {cI cB cJ cN cW : ClassId} (b : Nat) (q : Nat → Nat) (x : Int32) : bw_Ci (S := bw_U) l yX8_back (bw_ws (Cond.code yX8_back cX8_back 2 (some .boolean))) rm_X8_back E G (bw_kt cI cB cJ cN cW) [.ref b, .int x] [(b, .inr (8, [.int 0, .int 0, .ref (q 0), .ref (q 1), .ref (q 2), .ref (q 3), .ref (q 4), .ref (q 5), .ref (q 6), .ref (q 7), .ref (q 8), .ref (q 9), .ref (q 10), .ref (q 11)])), ((q 11), .inr (1, [.int 0, .ref (q 51), .ref (q 52)]))] (fun r _ => r = 0) (fun _ => []) := by
  refine bw_Ci.of (cc := cX8_back) (maxL := 2) (ty := .boolean) (by decide) rfl (Nat.le_of_ble_eq_true rfl) ?_
  intro p e s m below meth c A Q hx hb hml hts hown hin hK hA hS hP hD hE ret ls hl
  have F : CallFix p m c cX8_back 2 s ([.ref b, .int x] : List Value).toArray bw_T RX8 := ⟨hx, hb, hml, hown, fun w h => hts w (List.mem_cons_of_mem _ h)⟩
  have hl : lv_has ls 2 [(0, .ref b), (1, .int x)] := hl
  refine lv_iload_n hx hb dX8_back_0 rfl (lv_at hl 1 rfl) ?_
  refine lv_if_lt (tgt := 15) hx hb dX8_back_1 (by decide) (fun h1 => ?_) (fun h1 => ?_)
  · refine lv_aload_n hx hb dX8_back_15 rfl (lv_at hl 0 rfl) ?_
    refine lv_iconst (v := 1) hx hb dX8_back_16 (by decide) ?_
    refine r_callVi (As := [.int 1]) (rest := []) (wr := [((q 11), .inr (1, [.int 0, .ref (q 51), .ref (q 52)]))]) F hK hP hD hS hA hO hE (c_X8_refuse hO b q 1) k_550 kv_X8_refuse 1 rfl (by decide +kernel) ⟨Nat.le_of_ble_eq_true rfl, Nat.le_of_ble_eq_true rfl⟩ [0] [1] rfl rfl (by decide) (by decide) (by decide) 0 8 rfl rfl rfl hl.1 rfl (Nat.le_of_ble_eq_true rfl) dX8_back_17 ⟨Nat.le_of_ble_eq_true rfl, Nat.le_of_ble_eq_true rfl⟩ (w1 := fun u1 => [((q 11), .inr (1, [.int 0, .ref (q 51), .ref (q 52)]))]) (fun _ => rfl) (fun r2 u1 H locs hp hP hD hS => ?_)
    subst hp
    refine lv_pop hx hb dX8_back_20 rfl ?_
    refine lv_iconst (v := 0) hx hb dX8_back_21 (by decide) ?_
    exact ret 0 (fun _ => 0, fun _ _ => 0) _ _ _ _ _ _ rfl rfl (bw_subP (isC := []) hP rfl) (hD.sub [] (by decide) rfl) hS (Nat.le_of_ble_eq_true rfl) (Nat.le_of_ble_eq_true rfl) dX8_back_22
  · refine lv_iload_n hx hb dX8_back_4 rfl (lv_at hl 1 rfl) ?_
    refine lv_aload_n hx hb dX8_back_5 rfl (lv_at hl 0 rfl) ?_
    refine r_get F hK hP 0 13 rfl rfl in_X8 (by decide) k_508 rfl dX8_back_6 ?_
    refine r_get F hK hP 1 0 rfl rfl in_X1 (by decide) k_483 rfl dX8_back_9 ?_
    refine lv_icmp_lt (tgt := 23) hx hb dX8_back_12 (by decide) (fun h9 => absurd h9 (Int32.not_lt.mpr (Int32.not_lt.mp h1))) (fun _ => ?_)
    refine lv_aload_n hx hb dX8_back_15 rfl (lv_at hl 0 rfl) ?_
    refine lv_iconst (v := 1) hx hb dX8_back_16 (by decide) ?_
    refine r_callVi (As := [.int 1]) (rest := []) (wr := [((q 11), .inr (1, [.int 0, .ref (q 51), .ref (q 52)]))]) F hK hP hD hS hA hO hE (c_X8_refuse hO b q 1) k_550 kv_X8_refuse 1 rfl (by decide +kernel) ⟨Nat.le_of_ble_eq_true rfl, Nat.le_of_ble_eq_true rfl⟩ [0] [1] rfl rfl (by decide) (by decide) (by decide) 0 8 rfl rfl rfl hl.1 rfl (Nat.le_of_ble_eq_true rfl) dX8_back_17 ⟨Nat.le_of_ble_eq_true rfl, Nat.le_of_ble_eq_true rfl⟩ (w1 := fun u1 => [((q 11), .inr (1, [.int 0, .ref (q 51), .ref (q 52)]))]) (fun _ => rfl) (fun r2 u1 H locs hp hP hD hS => ?_)
    subst hp
    refine lv_pop hx hb dX8_back_20 rfl ?_
    refine lv_iconst (v := 0) hx hb dX8_back_21 (by decide) ?_
    exact ret 0 (fun _ => 0, fun _ _ => 0) _ _ _ _ _ _ rfl rfl (bw_subP (isC := []) hP rfl) (hD.sub [] (by decide) rfl) hS (Nat.le_of_ble_eq_true rfl) (Nat.le_of_ble_eq_true rfl) dX8_back_22
end
section
theorem bw_loop_1' {a b : Int32} (h : (1 ≤ a ∧ a ≤ 9) ∧ (1 ≤ b ∧ b ≤ 99)) (h1 : a = 1) : a * ((b + 10 - 1) / 10) = bw_loop a b := by
  unfold bw_loop; rw [if_pos h, if_pos h1]
theorem dX8_loop_0 : decode cX8_loop 0 = .ok (.iload_n 1, 1) := by decide +kernel
theorem dX8_loop_1 : decode cX8_loop 1 = .ok (.iconst 1, 1) := by decide +kernel
theorem dX8_loop_2 : decode cX8_loop 2 = .ok (.if_icmp .lt 20, 3) := by decide +kernel
theorem dX8_loop_22 : decode cX8_loop 22 = .ok (.aload_n 0, 1) := by decide +kernel
theorem dX8_loop_23 : decode cX8_loop 23 = .ok (.iconst 2, 1) := by decide +kernel
theorem dX8_loop_24 : decode cX8_loop 24 = .ok (.invokevirtual 92, 3) := by decide +kernel
theorem dX8_loop_27 : decode cX8_loop 27 = .ok (.ireturn, 1) := by decide +kernel
theorem dX8_loop_5 : decode cX8_loop 5 = .ok (.iload_n 1, 1) := by decide +kernel
theorem dX8_loop_6 : decode cX8_loop 6 = .ok (.bipush 9, 2) := by decide +kernel
theorem dX8_loop_8 : decode cX8_loop 8 = .ok (.if_icmp .gt 14, 3) := by decide +kernel
theorem dX8_loop_11 : decode cX8_loop 11 = .ok (.iload_n 2, 1) := by decide +kernel
theorem dX8_loop_12 : decode cX8_loop 12 = .ok (.iconst 1, 1) := by decide +kernel
theorem dX8_loop_13 : decode cX8_loop 13 = .ok (.if_icmp .lt 9, 3) := by decide +kernel
theorem dX8_loop_16 : decode cX8_loop 16 = .ok (.iload_n 2, 1) := by decide +kernel
theorem dX8_loop_17 : decode cX8_loop 17 = .ok (.bipush 99, 2) := by decide +kernel
theorem dX8_loop_19 : decode cX8_loop 19 = .ok (.if_icmp .le 9, 3) := by decide +kernel
theorem dX8_loop_28 : decode cX8_loop 28 = .ok (.iload_n 1, 1) := by decide +kernel
theorem dX8_loop_29 : decode cX8_loop 29 = .ok (.iconst 1, 1) := by decide +kernel
theorem dX8_loop_30 : decode cX8_loop 30 = .ok (.if_icmp .ne 8, 3) := by decide +kernel
theorem dX8_loop_38 : decode cX8_loop 38 = .ok (.bipush 9, 2) := by decide +kernel
theorem dX8_loop_40 : decode cX8_loop 40 = .ok (.istore_n 3, 1) := by decide +kernel
theorem dX8_loop_41 : decode cX8_loop 41 = .ok (.iload_n 2, 1) := by decide +kernel
theorem dX8_loop_42 : decode cX8_loop 42 = .ok (.iload_n 3, 1) := by decide +kernel
theorem dX8_loop_43 : decode cX8_loop 43 = .ok (.iadd, 1) := by decide +kernel
theorem dX8_loop_44 : decode cX8_loop 44 = .ok (.iconst 1, 1) := by decide +kernel
theorem dX8_loop_45 : decode cX8_loop 45 = .ok (.isub, 1) := by decide +kernel
theorem dX8_loop_46 : decode cX8_loop 46 = .ok (.iload_n 3, 1) := by decide +kernel
theorem dX8_loop_47 : decode cX8_loop 47 = .ok (.idiv, 1) := by decide +kernel
theorem dX8_loop_48 : decode cX8_loop 48 = .ok (.istore 4, 2) := by decide +kernel
theorem dX8_loop_50 : decode cX8_loop 50 = .ok (.aload_n 0, 1) := by decide +kernel
theorem dX8_loop_51 : decode cX8_loop 51 = .ok (.iload_n 1, 1) := by decide +kernel
theorem dX8_loop_52 : decode cX8_loop 52 = .ok (.iload 4, 2) := by decide +kernel
theorem dX8_loop_54 : decode cX8_loop 54 = .ok (.imul, 1) := by decide +kernel
theorem dX8_loop_55 : decode cX8_loop 55 = .ok (.invokevirtual 125, 3) := by decide +kernel
theorem k_663 : Cond.methodLink RX8 125 yX8_grant ∈ bw_T := bw_m 663 (by decide +kernel) rfl
theorem kv_X8_grant : bw_KV RX8 yX8_grant (Cond.code yX8_grant cX8_grant 2 (some .int)) := ⟨bw_m 665 (by decide +kernel) rfl, bw_m 20 (by decide +kernel) rfl, bw_m 94 (by decide +kernel) rfl, bw_m 666 (by decide +kernel) rfl⟩
theorem dX8_loop_58 : decode cX8_loop 58 = .ok (.ireturn, 1) := by decide +kernel
theorem dX8_loop_33 : decode cX8_loop 33 = .ok (.bipush 10, 2) := by decide +kernel
theorem dX8_loop_35 : decode cX8_loop 35 = .ok (.goto 5, 3) := by decide +kernel
abbrev rm_X8_loop : Room := { frames := 1, cells := 0, slots := 0, locals := 21 }
set_option maxRecDepth 100000 in
set_option maxHeartbeats 4000000 in
theorem c_X8_loop {l : Launch} {E : (Nat → Prop) → State → Prop} (hO : bw_Ok E) {G : va_G} {cI cB cJ cN cW : ClassId} (b : Nat) (q : Nat → Nat) (x : Int32) (y : Int32) : bw_Ci (S := bw_U) l yX8_loop (bw_ws (Cond.code yX8_loop cX8_loop 5 (some .int))) rm_X8_loop E G (bw_kt cI cB cJ cN cW) [.ref b, .int x, .int y] [(b, .inr (8, [.int 0, .int 0, .ref (q 0), .ref (q 1), .ref (q 2), .ref (q 3), .ref (q 4), .ref (q 5), .ref (q 6), .ref (q 7), .ref (q 8), .ref (q 9), .ref (q 10), .ref (q 11)]))] (fun r _ => r = bw_loop x y) (fun _ => []) := by
  refine bw_Ci.of (cc := cX8_loop) (maxL := 5) (ty := .int) (by decide) rfl (Nat.le_of_ble_eq_true rfl) ?_
  intro p e s m below meth c A Q hx hb hml hts hown hin hK hA hS hP hD hE ret ls hl
  have F : CallFix p m c cX8_loop 5 s ([.ref b, .int x, .int y] : List Value).toArray bw_T RX8 := ⟨hx, hb, hml, hown, fun w h => hts w (List.mem_cons_of_mem _ h)⟩
  have hl : lv_has ls 5 [(0, .ref b), (1, .int x), (2, .int y)] := hl
  refine lv_iload_n hx hb dX8_loop_0 rfl (lv_at hl 1 rfl) ?_
  refine lv_iconst (v := 1) hx hb dX8_loop_1 (by decide) ?_
  refine lv_icmp_lt (tgt := 22) hx hb dX8_loop_2 (by decide) (fun h1 => ?_) (fun h1 => ?_)
  · refine lv_aload_n hx hb dX8_loop_22 rfl (lv_at hl 0 rfl) ?_
    refine lv_iconst (v := 2) hx hb dX8_loop_23 (by decide) ?_
    refine r_callVi (As := [.int 2]) (rest := []) (wr := []) F hK hP hD hS hA hO hE (c_X8_refuse hO b q 2) k_550 kv_X8_refuse 1 rfl (by decide +kernel) ⟨Nat.le_of_ble_eq_true rfl, Nat.le_of_ble_eq_true rfl⟩ [0] [] rfl rfl (by decide) (by decide) (by decide) 0 8 rfl rfl rfl hl.1 rfl (Nat.le_of_ble_eq_true rfl) dX8_loop_24 ⟨Nat.le_of_ble_eq_true rfl, Nat.le_of_ble_eq_true rfl⟩ (w1 := fun u1 => []) (fun _ => rfl) (fun r2 u1 H locs hp hP hD hS => ?_)
    subst hp
    exact ret (-1) (fun _ => 0, fun _ _ => 0) _ _ _ _ _ _ rfl (by refine (bw_loop_no (fun q9 => ?_)).symm; obtain ⟨⟨q1, q2⟩, q3, q4⟩ := q9; first | exact absurd q1 (Int32.not_le.mpr h1) | exact absurd q2 (Int32.not_le.mpr h2) | exact absurd q3 (Int32.not_le.mpr h3) | exact h4 q4) (bw_subP (isC := []) hP rfl) (hD.sub [] (by decide) rfl) hS (Nat.le_of_ble_eq_true rfl) (Nat.le_of_ble_eq_true rfl) dX8_loop_27
  · refine lv_iload_n hx hb dX8_loop_5 rfl (lv_at hl 1 rfl) ?_
    refine lv_bipush (v := 9) hx hb dX8_loop_6 (by decide) ?_
    refine lv_icmp_gt (tgt := 22) hx hb dX8_loop_8 (by decide) (fun h2 => ?_) (fun h2 => ?_)
    · refine lv_aload_n hx hb dX8_loop_22 rfl (lv_at hl 0 rfl) ?_
      refine lv_iconst (v := 2) hx hb dX8_loop_23 (by decide) ?_
      refine r_callVi (As := [.int 2]) (rest := []) (wr := []) F hK hP hD hS hA hO hE (c_X8_refuse hO b q 2) k_550 kv_X8_refuse 1 rfl (by decide +kernel) ⟨Nat.le_of_ble_eq_true rfl, Nat.le_of_ble_eq_true rfl⟩ [0] [] rfl rfl (by decide) (by decide) (by decide) 0 8 rfl rfl rfl hl.1 rfl (Nat.le_of_ble_eq_true rfl) dX8_loop_24 ⟨Nat.le_of_ble_eq_true rfl, Nat.le_of_ble_eq_true rfl⟩ (w1 := fun u1 => []) (fun _ => rfl) (fun r2 u1 H locs hp hP hD hS => ?_)
      subst hp
      exact ret (-1) (fun _ => 0, fun _ _ => 0) _ _ _ _ _ _ rfl (by refine (bw_loop_no (fun q9 => ?_)).symm; obtain ⟨⟨q1, q2⟩, q3, q4⟩ := q9; first | exact absurd q1 (Int32.not_le.mpr h1) | exact absurd q2 (Int32.not_le.mpr h2) | exact absurd q3 (Int32.not_le.mpr h3) | exact h4 q4) (bw_subP (isC := []) hP rfl) (hD.sub [] (by decide) rfl) hS (Nat.le_of_ble_eq_true rfl) (Nat.le_of_ble_eq_true rfl) dX8_loop_27
    · refine lv_iload_n hx hb dX8_loop_11 rfl (lv_at hl 2 rfl) ?_
      refine lv_iconst (v := 1) hx hb dX8_loop_12 (by decide) ?_
      refine lv_icmp_lt (tgt := 22) hx hb dX8_loop_13 (by decide) (fun h3 => ?_) (fun h3 => ?_)
      · refine lv_aload_n hx hb dX8_loop_22 rfl (lv_at hl 0 rfl) ?_
        refine lv_iconst (v := 2) hx hb dX8_loop_23 (by decide) ?_
        refine r_callVi (As := [.int 2]) (rest := []) (wr := []) F hK hP hD hS hA hO hE (c_X8_refuse hO b q 2) k_550 kv_X8_refuse 1 rfl (by decide +kernel) ⟨Nat.le_of_ble_eq_true rfl, Nat.le_of_ble_eq_true rfl⟩ [0] [] rfl rfl (by decide) (by decide) (by decide) 0 8 rfl rfl rfl hl.1 rfl (Nat.le_of_ble_eq_true rfl) dX8_loop_24 ⟨Nat.le_of_ble_eq_true rfl, Nat.le_of_ble_eq_true rfl⟩ (w1 := fun u1 => []) (fun _ => rfl) (fun r2 u1 H locs hp hP hD hS => ?_)
        subst hp
        exact ret (-1) (fun _ => 0, fun _ _ => 0) _ _ _ _ _ _ rfl (by refine (bw_loop_no (fun q9 => ?_)).symm; obtain ⟨⟨q1, q2⟩, q3, q4⟩ := q9; first | exact absurd q1 (Int32.not_le.mpr h1) | exact absurd q2 (Int32.not_le.mpr h2) | exact absurd q3 (Int32.not_le.mpr h3) | exact h4 q4) (bw_subP (isC := []) hP rfl) (hD.sub [] (by decide) rfl) hS (Nat.le_of_ble_eq_true rfl) (Nat.le_of_ble_eq_true rfl) dX8_loop_27
      · refine lv_iload_n hx hb dX8_loop_16 rfl (lv_at hl 2 rfl) ?_
        refine lv_bipush (v := 99) hx hb dX8_loop_17 (by decide) ?_
        refine lv_icmp_le (tgt := 28) hx hb dX8_loop_19 (by decide) (fun h4 => ?_) (fun h4 => ?_)
        · refine lv_iload_n hx hb dX8_loop_28 rfl (lv_at hl 1 rfl) ?_
          refine lv_iconst (v := 1) hx hb dX8_loop_29 (by decide) ?_
          refine lv_icmp_ne (tgt := 38) hx hb dX8_loop_30 (by decide) (fun h5 => ?_) (fun h5 => ?_)
          · refine lv_bipush (v := 9) hx hb dX8_loop_38 (by decide) ?_
            refine lv_istore_n (lv' := [(3, .int 9), (0, .ref b), (1, .int x), (2, .int y)]) hx hb dX8_loop_40 rfl hl (by decide) rfl (fun ls hl => ?_)
            refine lv_iload_n hx hb dX8_loop_41 rfl (lv_at hl 3 rfl) ?_
            refine lv_iload_n hx hb dX8_loop_42 rfl (lv_at hl 0 rfl) ?_
            refine r_iadd (v := (y + 9)) F dX8_loop_43 rfl ?_
            refine lv_iconst (v := 1) hx hb dX8_loop_44 (by decide) ?_
            refine r_isub (v := ((y + 9) - 1)) F dX8_loop_45 rfl ?_
            refine lv_iload_n hx hb dX8_loop_46 rfl (lv_at hl 0 rfl) ?_
            refine r_idiv (v := (((y + 9) - 1) / 9)) F dX8_loop_47 (by decide) rfl ?_
            refine lv_istore (lv' := [(4, .int (((y + 9) - 1) / 9)), (3, .int 9), (0, .ref b), (1, .int x), (2, .int y)]) hx hb dX8_loop_48 hl (by decide) rfl (fun ls hl => ?_)
            refine lv_aload_n hx hb dX8_loop_50 rfl (lv_at hl 2 rfl) ?_
            refine lv_iload_n hx hb dX8_loop_51 rfl (lv_at hl 3 rfl) ?_
            refine lv_iload hx hb dX8_loop_52 (lv_at hl 0 rfl) ?_
            refine r_imul (v := (x * (((y + 9) - 1) / 9))) F dX8_loop_54 rfl ?_
            refine r_callVi (As := [.int (x * (((y + 9) - 1) / 9))]) (rest := []) (wr := []) F hK hP hD hS hA hO hE (c_X8_grant hO b q (x * (((y + 9) - 1) / 9))) k_663 kv_X8_grant 1 rfl (by decide +kernel) ⟨Nat.le_of_ble_eq_true rfl, Nat.le_of_ble_eq_true rfl⟩ [0] [] rfl rfl (by decide) (by decide) (by decide) 0 8 rfl rfl rfl hl.1 rfl (Nat.le_of_ble_eq_true rfl) dX8_loop_55 ⟨Nat.le_of_ble_eq_true rfl, Nat.le_of_ble_eq_true rfl⟩ (w1 := fun u1 => []) (fun _ => rfl) (fun r2 u1 H locs hp hP hD hS => ?_)
            subst hp
            exact ret (x * (((y + 9) - 1) / 9)) (fun _ => 0, fun _ _ => 0) _ _ _ _ _ _ rfl (bw_loop_n ⟨⟨Int32.not_lt.mp h1, Int32.not_lt.mp h2⟩, Int32.not_lt.mp h3, h4⟩ h5).symm (bw_subP (isC := []) hP rfl) (hD.sub [] (by decide) rfl) hS (Nat.le_of_ble_eq_true rfl) (Nat.le_of_ble_eq_true rfl) dX8_loop_58
          · refine lv_bipush (v := 10) hx hb dX8_loop_33 (by decide) ?_
            refine lv_goto (tgt := 40) hx hb dX8_loop_35 (by decide) ?_
            refine lv_istore_n (lv' := [(3, .int 10), (0, .ref b), (1, .int x), (2, .int y)]) hx hb dX8_loop_40 rfl hl (by decide) rfl (fun ls hl => ?_)
            refine lv_iload_n hx hb dX8_loop_41 rfl (lv_at hl 3 rfl) ?_
            refine lv_iload_n hx hb dX8_loop_42 rfl (lv_at hl 0 rfl) ?_
            refine r_iadd (v := (y + 10)) F dX8_loop_43 rfl ?_
            refine lv_iconst (v := 1) hx hb dX8_loop_44 (by decide) ?_
            refine r_isub (v := ((y + 10) - 1)) F dX8_loop_45 rfl ?_
            refine lv_iload_n hx hb dX8_loop_46 rfl (lv_at hl 0 rfl) ?_
            refine r_idiv (v := (((y + 10) - 1) / 10)) F dX8_loop_47 (by decide) rfl ?_
            refine lv_istore (lv' := [(4, .int (((y + 10) - 1) / 10)), (3, .int 10), (0, .ref b), (1, .int x), (2, .int y)]) hx hb dX8_loop_48 hl (by decide) rfl (fun ls hl => ?_)
            refine lv_aload_n hx hb dX8_loop_50 rfl (lv_at hl 2 rfl) ?_
            refine lv_iload_n hx hb dX8_loop_51 rfl (lv_at hl 3 rfl) ?_
            refine lv_iload hx hb dX8_loop_52 (lv_at hl 0 rfl) ?_
            refine r_imul (v := (x * (((y + 10) - 1) / 10))) F dX8_loop_54 rfl ?_
            refine r_callVi (As := [.int (x * (((y + 10) - 1) / 10))]) (rest := []) (wr := []) F hK hP hD hS hA hO hE (c_X8_grant hO b q (x * (((y + 10) - 1) / 10))) k_663 kv_X8_grant 1 rfl (by decide +kernel) ⟨Nat.le_of_ble_eq_true rfl, Nat.le_of_ble_eq_true rfl⟩ [0] [] rfl rfl (by decide) (by decide) (by decide) 0 8 rfl rfl rfl hl.1 rfl (Nat.le_of_ble_eq_true rfl) dX8_loop_55 ⟨Nat.le_of_ble_eq_true rfl, Nat.le_of_ble_eq_true rfl⟩ (w1 := fun u1 => []) (fun _ => rfl) (fun r2 u1 H locs hp hP hD hS => ?_)
            subst hp
            exact ret (x * (((y + 10) - 1) / 10)) (fun _ => 0, fun _ _ => 0) _ _ _ _ _ _ rfl (bw_loop_1' ⟨⟨Int32.not_lt.mp h1, Int32.not_lt.mp h2⟩, Int32.not_lt.mp h3, h4⟩ h5) (bw_subP (isC := []) hP rfl) (hD.sub [] (by decide) rfl) hS (Nat.le_of_ble_eq_true rfl) (Nat.le_of_ble_eq_true rfl) dX8_loop_58
        · refine lv_aload_n hx hb dX8_loop_22 rfl (lv_at hl 0 rfl) ?_
          refine lv_iconst (v := 2) hx hb dX8_loop_23 (by decide) ?_
          refine r_callVi (As := [.int 2]) (rest := []) (wr := []) F hK hP hD hS hA hO hE (c_X8_refuse hO b q 2) k_550 kv_X8_refuse 1 rfl (by decide +kernel) ⟨Nat.le_of_ble_eq_true rfl, Nat.le_of_ble_eq_true rfl⟩ [0] [] rfl rfl (by decide) (by decide) (by decide) 0 8 rfl rfl rfl hl.1 rfl (Nat.le_of_ble_eq_true rfl) dX8_loop_24 ⟨Nat.le_of_ble_eq_true rfl, Nat.le_of_ble_eq_true rfl⟩ (w1 := fun u1 => []) (fun _ => rfl) (fun r2 u1 H locs hp hP hD hS => ?_)
          subst hp
          exact ret (-1) (fun _ => 0, fun _ _ => 0) _ _ _ _ _ _ rfl (by refine (bw_loop_no (fun q9 => ?_)).symm; obtain ⟨⟨q1, q2⟩, q3, q4⟩ := q9; first | exact absurd q1 (Int32.not_le.mpr h1) | exact absurd q2 (Int32.not_le.mpr h2) | exact absurd q3 (Int32.not_le.mpr h3) | exact h4 q4) (bw_subP (isC := []) hP rfl) (hD.sub [] (by decide) rfl) hS (Nat.le_of_ble_eq_true rfl) (Nat.le_of_ble_eq_true rfl) dX8_loop_27
theorem dX3_put_0 : decode cX3_put 0 = .ok (.bipush 24, 2) := by decide +kernel
theorem dX3_put_2 : decode cX3_put 2 = .ok (.istore_n 2, 1) := by decide +kernel
theorem dX3_put_3 : decode cX3_put 3 = .ok (.iload_n 2, 1) := by decide +kernel
theorem dX3_put_4 : decode cX3_put 4 = .ok (.ifCond .lt 32, 3) := by decide +kernel
theorem dX3_put_7 : decode cX3_put 7 = .ok (.aload_n 0, 1) := by decide +kernel
theorem dX3_put_8 : decode cX3_put 8 = .ok (.getfield 9, 3) := by decide +kernel
theorem dX3_put_11 : decode cX3_put 11 = .ok (.aload_n 0, 1) := by decide +kernel
theorem dX3_put_12 : decode cX3_put 12 = .ok (.getfield 15, 3) := by decide +kernel
theorem dX3_put_15 : decode cX3_put 15 = .ok (.iload_n 1, 1) := by decide +kernel
theorem dX3_put_16 : decode cX3_put 16 = .ok (.iload_n 2, 1) := by decide +kernel
theorem dX3_put_17 : decode cX3_put 17 = .ok (.ishr, 1) := by decide +kernel
theorem dX3_put_18 : decode cX3_put 18 = .ok (.i2b, 1) := by decide +kernel
theorem dX3_put_19 : decode cX3_put 19 = .ok (.bastore, 1) := by decide +kernel
theorem dX3_put_20 : decode cX3_put 20 = .ok (.aload_n 0, 1) := by decide +kernel
theorem dX3_put_21 : decode cX3_put 21 = .ok (.dup, 1) := by decide +kernel
theorem dX3_put_22 : decode cX3_put 22 = .ok (.getfield 15, 3) := by decide +kernel
theorem dX3_put_25 : decode cX3_put 25 = .ok (.iconst 1, 1) := by decide +kernel
theorem dX3_put_26 : decode cX3_put 26 = .ok (.iadd, 1) := by decide +kernel
theorem dX3_put_27 : decode cX3_put 27 = .ok (.putfield 15, 3) := by decide +kernel
theorem dX3_put_30 : decode cX3_put 30 = .ok (.iinc 2 (-8), 3) := by decide +kernel
theorem dX3_put_33 : decode cX3_put 33 = .ok (.goto (-30), 3) := by decide +kernel
theorem dX3_put_36 : decode cX3_put 36 = .ok (.return_, 1) := by decide +kernel
abbrev rm_X3_put_0 : Room := { frames := 0, cells := 0, slots := 0, locals := 0 }
set_option maxRecDepth 100000 in
set_option maxHeartbeats 4000000 in
theorem c_X3_put_0 {l : Launch} {E : (Nat → Prop) → State → Prop} (hO : bw_Ok E) {G : va_G} {cI cB cJ cN cW : ClassId} (b : Nat) (q : Nat → Nat) (f : Nat → Int32) (x : Int32) : bw_Cv (S := bw_U) l yX3_put (bw_ws (Cond.code yX3_put cX3_put 3 none)) rm_X3_put_0 E G (bw_kt cI cB cJ cN cW) [.ref b, .int x] [(b, .inr (3, [.ref (q 20), .int 0, .ref (q 21), .ref (q 22), .int 0, .int 0, .ref (q 23), .ref (q 24), .int 0, .int 24, .int 0, .int 0, .long 0, .int 0])), ((q 20), .inl (cB, 900, .inl f))] (fun _ => True) (fun u => [(b, .inr (3, [.ref (q 20), .int 4, .ref (q 21), .ref (q 22), .int 0, .int 0, .ref (q 23), .ref (q 24), .int 0, .int 24, .int 0, .int 0, .long 0, .int 0])), ((q 20), .inl (cB, 900, .inl (u.2 0)))]) := by
  refine bw_Cv.of (cc := cX3_put) (maxL := 3) (by decide) rfl (Nat.le_of_ble_eq_true rfl) ?_
  intro p e s m below meth c A Q hx hb hml hts hown hin hK hA hS hP hD hE ret ls hl
  have F : CallFix p m c cX3_put 3 s ([.ref b, .int x] : List Value).toArray bw_T RX3 := ⟨hx, hb, hml, hown, fun w h => hts w (List.mem_cons_of_mem _ h)⟩
  have hl : lv_has ls 3 [(0, .ref b), (1, .int x)] := hl
  refine lv_bipush (v := 24) hx hb dX3_put_0 (by decide) ?_
  refine lv_istore_n (lv' := [(2, .int 24), (0, .ref b), (1, .int x)]) hx hb dX3_put_2 rfl hl (by decide) rfl (fun ls hl => ?_)
  refine lv_iload_n hx hb dX3_put_3 rfl (lv_at hl 0 rfl) ?_
  refine lv_if_lt (tgt := 36) hx hb dX3_put_4 (by decide) (fun h9 => absurd h9 (by decide)) (fun _ => ?_)
  refine lv_aload_n hx hb dX3_put_7 rfl (lv_at hl 1 rfl) ?_
  refine r_get F hK hP 0 0 rfl rfl in_X3 (by decide) k_261 rfl dX3_put_8 ?_
  refine lv_aload_n hx hb dX3_put_11 rfl (lv_at hl 1 rfl) ?_
  refine r_get F hK hP 0 1 rfl rfl in_X3 (by decide) k_262 rfl dX3_put_12 ?_
  refine lv_iload_n hx hb dX3_put_15 rfl (lv_at hl 2 rfl) ?_
  refine lv_iload_n hx hb dX3_put_16 rfl (lv_at hl 0 rfl) ?_
  refine r_ishr (v := (x >>> (24 &&& 31))) F dX3_put_17 rfl ?_
  refine lv_i2b (v := ((x >>> (24 &&& 31))).toInt8.toInt32) hx hb dX3_put_18 rfl ?_
  refine r_bastX F hK hP hD hS 1 1 rfl rfl (bw_vin (by decide)) dX3_put_19 (w1 := fun f1 => [(b, .inr (3, [.ref (q 20), .int 0, .ref (q 21), .ref (q 22), .int 0, .int 0, .ref (q 23), .ref (q 24), .int 0, .int 24, .int 0, .int 0, .long 0, .int 0])), ((q 20), .inl (cB, 900, .inl f1))]) (fun _ => rfl) (fun f1 H locs hP hD hS => ?_)
  refine lv_aload_n hx hb dX3_put_20 rfl (lv_at hl 1 rfl) ?_
  refine lv_dup hx hb dX3_put_21 rfl ?_
  refine r_get F hK hP 0 1 rfl rfl in_X3 (by decide) k_262 rfl dX3_put_22 ?_
  refine lv_iconst (v := 1) hx hb dX3_put_25 (by decide) ?_
  refine r_iadd (v := 1) F dX3_put_26 (by decide) ?_
  refine r_put F hK hP hD hS 0 1 rfl rfl in_X3 tyX3 tyX3_ok nmX3 (by decide) k_262 rfl rfl rfl (Nat.le_of_ble_eq_true rfl) dX3_put_27 (w1 := [(b, .inr (3, [.ref (q 20), .int 1, .ref (q 21), .ref (q 22), .int 0, .int 0, .ref (q 23), .ref (q 24), .int 0, .int 24, .int 0, .int 0, .long 0, .int 0])), ((q 20), .inl (cB, 900, .inl f1))]) rfl (fun H locs hP hD hS => ?_)
  refine lv_iinc (v := 16) (lv' := [(2, .int 16), (0, .ref b), (1, .int x)]) hx hb dX3_put_30 hl (k := 0) rfl (by decide) (by decide) rfl (fun ls hl => ?_)
  refine lv_goto (tgt := 3) hx hb dX3_put_33 (by decide) ?_
  refine lv_iload_n hx hb dX3_put_3 rfl (lv_at hl 0 rfl) ?_
  refine lv_if_lt (tgt := 36) hx hb dX3_put_4 (by decide) (fun h9 => absurd h9 (by decide)) (fun _ => ?_)
  refine lv_aload_n hx hb dX3_put_7 rfl (lv_at hl 1 rfl) ?_
  refine r_get F hK hP 0 0 rfl rfl in_X3 (by decide) k_261 rfl dX3_put_8 ?_
  refine lv_aload_n hx hb dX3_put_11 rfl (lv_at hl 1 rfl) ?_
  refine r_get F hK hP 0 1 rfl rfl in_X3 (by decide) k_262 rfl dX3_put_12 ?_
  refine lv_iload_n hx hb dX3_put_15 rfl (lv_at hl 2 rfl) ?_
  refine lv_iload_n hx hb dX3_put_16 rfl (lv_at hl 0 rfl) ?_
  refine r_ishr (v := (x >>> (16 &&& 31))) F dX3_put_17 rfl ?_
  refine lv_i2b (v := ((x >>> (16 &&& 31))).toInt8.toInt32) hx hb dX3_put_18 rfl ?_
  refine r_bastX F hK hP hD hS 1 1 rfl rfl (bw_vin (by decide)) dX3_put_19 (w1 := fun f2 => [(b, .inr (3, [.ref (q 20), .int 1, .ref (q 21), .ref (q 22), .int 0, .int 0, .ref (q 23), .ref (q 24), .int 0, .int 24, .int 0, .int 0, .long 0, .int 0])), ((q 20), .inl (cB, 900, .inl f2))]) (fun _ => rfl) (fun f2 H locs hP hD hS => ?_)
  refine lv_aload_n hx hb dX3_put_20 rfl (lv_at hl 1 rfl) ?_
  refine lv_dup hx hb dX3_put_21 rfl ?_
  refine r_get F hK hP 0 1 rfl rfl in_X3 (by decide) k_262 rfl dX3_put_22 ?_
  refine lv_iconst (v := 1) hx hb dX3_put_25 (by decide) ?_
  refine r_iadd (v := 2) F dX3_put_26 (by decide) ?_
  refine r_put F hK hP hD hS 0 1 rfl rfl in_X3 tyX3 tyX3_ok nmX3 (by decide) k_262 rfl rfl rfl (Nat.le_of_ble_eq_true rfl) dX3_put_27 (w1 := [(b, .inr (3, [.ref (q 20), .int 2, .ref (q 21), .ref (q 22), .int 0, .int 0, .ref (q 23), .ref (q 24), .int 0, .int 24, .int 0, .int 0, .long 0, .int 0])), ((q 20), .inl (cB, 900, .inl f2))]) rfl (fun H locs hP hD hS => ?_)
  refine lv_iinc (v := 8) (lv' := [(2, .int 8), (0, .ref b), (1, .int x)]) hx hb dX3_put_30 hl (k := 0) rfl (by decide) (by decide) rfl (fun ls hl => ?_)
  refine lv_goto (tgt := 3) hx hb dX3_put_33 (by decide) ?_
  refine lv_iload_n hx hb dX3_put_3 rfl (lv_at hl 0 rfl) ?_
  refine lv_if_lt (tgt := 36) hx hb dX3_put_4 (by decide) (fun h9 => absurd h9 (by decide)) (fun _ => ?_)
  refine lv_aload_n hx hb dX3_put_7 rfl (lv_at hl 1 rfl) ?_
  refine r_get F hK hP 0 0 rfl rfl in_X3 (by decide) k_261 rfl dX3_put_8 ?_
  refine lv_aload_n hx hb dX3_put_11 rfl (lv_at hl 1 rfl) ?_
  refine r_get F hK hP 0 1 rfl rfl in_X3 (by decide) k_262 rfl dX3_put_12 ?_
  refine lv_iload_n hx hb dX3_put_15 rfl (lv_at hl 2 rfl) ?_
  refine lv_iload_n hx hb dX3_put_16 rfl (lv_at hl 0 rfl) ?_
  refine r_ishr (v := (x >>> (8 &&& 31))) F dX3_put_17 rfl ?_
  refine lv_i2b (v := ((x >>> (8 &&& 31))).toInt8.toInt32) hx hb dX3_put_18 rfl ?_
  refine r_bastX F hK hP hD hS 1 1 rfl rfl (bw_vin (by decide)) dX3_put_19 (w1 := fun f3 => [(b, .inr (3, [.ref (q 20), .int 2, .ref (q 21), .ref (q 22), .int 0, .int 0, .ref (q 23), .ref (q 24), .int 0, .int 24, .int 0, .int 0, .long 0, .int 0])), ((q 20), .inl (cB, 900, .inl f3))]) (fun _ => rfl) (fun f3 H locs hP hD hS => ?_)
  refine lv_aload_n hx hb dX3_put_20 rfl (lv_at hl 1 rfl) ?_
  refine lv_dup hx hb dX3_put_21 rfl ?_
  refine r_get F hK hP 0 1 rfl rfl in_X3 (by decide) k_262 rfl dX3_put_22 ?_
  refine lv_iconst (v := 1) hx hb dX3_put_25 (by decide) ?_
  refine r_iadd (v := 3) F dX3_put_26 (by decide) ?_
  refine r_put F hK hP hD hS 0 1 rfl rfl in_X3 tyX3 tyX3_ok nmX3 (by decide) k_262 rfl rfl rfl (Nat.le_of_ble_eq_true rfl) dX3_put_27 (w1 := [(b, .inr (3, [.ref (q 20), .int 3, .ref (q 21), .ref (q 22), .int 0, .int 0, .ref (q 23), .ref (q 24), .int 0, .int 24, .int 0, .int 0, .long 0, .int 0])), ((q 20), .inl (cB, 900, .inl f3))]) rfl (fun H locs hP hD hS => ?_)
  refine lv_iinc (v := 0) (lv' := [(2, .int 0), (0, .ref b), (1, .int x)]) hx hb dX3_put_30 hl (k := 0) rfl (by decide) (by decide) rfl (fun ls hl => ?_)
  refine lv_goto (tgt := 3) hx hb dX3_put_33 (by decide) ?_
  refine lv_iload_n hx hb dX3_put_3 rfl (lv_at hl 0 rfl) ?_
  refine lv_if_lt (tgt := 36) hx hb dX3_put_4 (by decide) (fun h9 => absurd h9 (by decide)) (fun _ => ?_)
  refine lv_aload_n hx hb dX3_put_7 rfl (lv_at hl 1 rfl) ?_
  refine r_get F hK hP 0 0 rfl rfl in_X3 (by decide) k_261 rfl dX3_put_8 ?_
  refine lv_aload_n hx hb dX3_put_11 rfl (lv_at hl 1 rfl) ?_
  refine r_get F hK hP 0 1 rfl rfl in_X3 (by decide) k_262 rfl dX3_put_12 ?_
  refine lv_iload_n hx hb dX3_put_15 rfl (lv_at hl 2 rfl) ?_
  refine lv_iload_n hx hb dX3_put_16 rfl (lv_at hl 0 rfl) ?_
  refine r_ishr (v := (x >>> (0 &&& 31))) F dX3_put_17 rfl ?_
  refine lv_i2b (v := ((x >>> (0 &&& 31))).toInt8.toInt32) hx hb dX3_put_18 rfl ?_
  refine r_bastX F hK hP hD hS 1 1 rfl rfl (bw_vin (by decide)) dX3_put_19 (w1 := fun f4 => [(b, .inr (3, [.ref (q 20), .int 3, .ref (q 21), .ref (q 22), .int 0, .int 0, .ref (q 23), .ref (q 24), .int 0, .int 24, .int 0, .int 0, .long 0, .int 0])), ((q 20), .inl (cB, 900, .inl f4))]) (fun _ => rfl) (fun f4 H locs hP hD hS => ?_)
  refine lv_aload_n hx hb dX3_put_20 rfl (lv_at hl 1 rfl) ?_
  refine lv_dup hx hb dX3_put_21 rfl ?_
  refine r_get F hK hP 0 1 rfl rfl in_X3 (by decide) k_262 rfl dX3_put_22 ?_
  refine lv_iconst (v := 1) hx hb dX3_put_25 (by decide) ?_
  refine r_iadd (v := 4) F dX3_put_26 (by decide) ?_
  refine r_put F hK hP hD hS 0 1 rfl rfl in_X3 tyX3 tyX3_ok nmX3 (by decide) k_262 rfl rfl rfl (Nat.le_of_ble_eq_true rfl) dX3_put_27 (w1 := [(b, .inr (3, [.ref (q 20), .int 4, .ref (q 21), .ref (q 22), .int 0, .int 0, .ref (q 23), .ref (q 24), .int 0, .int 24, .int 0, .int 0, .long 0, .int 0])), ((q 20), .inl (cB, 900, .inl f4))]) rfl (fun H locs hP hD hS => ?_)
  refine lv_iinc (v := (-8)) (lv' := [(2, .int (-8)), (0, .ref b), (1, .int x)]) hx hb dX3_put_30 hl (k := 0) rfl (by decide) (by decide) rfl (fun ls hl => ?_)
  refine lv_goto (tgt := 3) hx hb dX3_put_33 (by decide) ?_
  refine lv_iload_n hx hb dX3_put_3 rfl (lv_at hl 0 rfl) ?_
  refine lv_if_lt (tgt := 36) hx hb dX3_put_4 (by decide) (fun _ => ?_) (fun h9 => absurd (by decide) h9)
  exact ret (fun _ => 0, fun _ => f4) _ _ _ _ _ _ trivial (bw_subP (isC := [0, 1]) hP rfl) (hD.sub [0, 1] (by decide) rfl) hS (Nat.le_of_ble_eq_true rfl) (Nat.le_of_ble_eq_true rfl) dX3_put_36
abbrev rm_X3_put_4 : Room := { frames := 0, cells := 0, slots := 0, locals := 0 }
set_option maxRecDepth 100000 in
set_option maxHeartbeats 4000000 in
theorem c_X3_put_4 {l : Launch} {E : (Nat → Prop) → State → Prop} (hO : bw_Ok E) {G : va_G} {cI cB cJ cN cW : ClassId} (b : Nat) (q : Nat → Nat) (f : Nat → Int32) (x : Int32) : bw_Cv (S := bw_U) l yX3_put (bw_ws (Cond.code yX3_put cX3_put 3 none)) rm_X3_put_4 E G (bw_kt cI cB cJ cN cW) [.ref b, .int x] [(b, .inr (3, [.ref (q 20), .int 4, .ref (q 21), .ref (q 22), .int 0, .int 0, .ref (q 23), .ref (q 24), .int 0, .int 24, .int 0, .int 0, .long 0, .int 0])), ((q 20), .inl (cB, 900, .inl f))] (fun _ => True) (fun u => [(b, .inr (3, [.ref (q 20), .int 8, .ref (q 21), .ref (q 22), .int 0, .int 0, .ref (q 23), .ref (q 24), .int 0, .int 24, .int 0, .int 0, .long 0, .int 0])), ((q 20), .inl (cB, 900, .inl (u.2 0)))]) := by
  refine bw_Cv.of (cc := cX3_put) (maxL := 3) (by decide) rfl (Nat.le_of_ble_eq_true rfl) ?_
  intro p e s m below meth c A Q hx hb hml hts hown hin hK hA hS hP hD hE ret ls hl
  have F : CallFix p m c cX3_put 3 s ([.ref b, .int x] : List Value).toArray bw_T RX3 := ⟨hx, hb, hml, hown, fun w h => hts w (List.mem_cons_of_mem _ h)⟩
  have hl : lv_has ls 3 [(0, .ref b), (1, .int x)] := hl
  refine lv_bipush (v := 24) hx hb dX3_put_0 (by decide) ?_
  refine lv_istore_n (lv' := [(2, .int 24), (0, .ref b), (1, .int x)]) hx hb dX3_put_2 rfl hl (by decide) rfl (fun ls hl => ?_)
  refine lv_iload_n hx hb dX3_put_3 rfl (lv_at hl 0 rfl) ?_
  refine lv_if_lt (tgt := 36) hx hb dX3_put_4 (by decide) (fun h9 => absurd h9 (by decide)) (fun _ => ?_)
  refine lv_aload_n hx hb dX3_put_7 rfl (lv_at hl 1 rfl) ?_
  refine r_get F hK hP 0 0 rfl rfl in_X3 (by decide) k_261 rfl dX3_put_8 ?_
  refine lv_aload_n hx hb dX3_put_11 rfl (lv_at hl 1 rfl) ?_
  refine r_get F hK hP 0 1 rfl rfl in_X3 (by decide) k_262 rfl dX3_put_12 ?_
  refine lv_iload_n hx hb dX3_put_15 rfl (lv_at hl 2 rfl) ?_
  refine lv_iload_n hx hb dX3_put_16 rfl (lv_at hl 0 rfl) ?_
  refine r_ishr (v := (x >>> (24 &&& 31))) F dX3_put_17 rfl ?_
  refine lv_i2b (v := ((x >>> (24 &&& 31))).toInt8.toInt32) hx hb dX3_put_18 rfl ?_
  refine r_bastX F hK hP hD hS 1 1 rfl rfl (bw_vin (by decide)) dX3_put_19 (w1 := fun f1 => [(b, .inr (3, [.ref (q 20), .int 4, .ref (q 21), .ref (q 22), .int 0, .int 0, .ref (q 23), .ref (q 24), .int 0, .int 24, .int 0, .int 0, .long 0, .int 0])), ((q 20), .inl (cB, 900, .inl f1))]) (fun _ => rfl) (fun f1 H locs hP hD hS => ?_)
  refine lv_aload_n hx hb dX3_put_20 rfl (lv_at hl 1 rfl) ?_
  refine lv_dup hx hb dX3_put_21 rfl ?_
  refine r_get F hK hP 0 1 rfl rfl in_X3 (by decide) k_262 rfl dX3_put_22 ?_
  refine lv_iconst (v := 1) hx hb dX3_put_25 (by decide) ?_
  refine r_iadd (v := 5) F dX3_put_26 (by decide) ?_
  refine r_put F hK hP hD hS 0 1 rfl rfl in_X3 tyX3 tyX3_ok nmX3 (by decide) k_262 rfl rfl rfl (Nat.le_of_ble_eq_true rfl) dX3_put_27 (w1 := [(b, .inr (3, [.ref (q 20), .int 5, .ref (q 21), .ref (q 22), .int 0, .int 0, .ref (q 23), .ref (q 24), .int 0, .int 24, .int 0, .int 0, .long 0, .int 0])), ((q 20), .inl (cB, 900, .inl f1))]) rfl (fun H locs hP hD hS => ?_)
  refine lv_iinc (v := 16) (lv' := [(2, .int 16), (0, .ref b), (1, .int x)]) hx hb dX3_put_30 hl (k := 0) rfl (by decide) (by decide) rfl (fun ls hl => ?_)
  refine lv_goto (tgt := 3) hx hb dX3_put_33 (by decide) ?_
  refine lv_iload_n hx hb dX3_put_3 rfl (lv_at hl 0 rfl) ?_
  refine lv_if_lt (tgt := 36) hx hb dX3_put_4 (by decide) (fun h9 => absurd h9 (by decide)) (fun _ => ?_)
  refine lv_aload_n hx hb dX3_put_7 rfl (lv_at hl 1 rfl) ?_
  refine r_get F hK hP 0 0 rfl rfl in_X3 (by decide) k_261 rfl dX3_put_8 ?_
  refine lv_aload_n hx hb dX3_put_11 rfl (lv_at hl 1 rfl) ?_
  refine r_get F hK hP 0 1 rfl rfl in_X3 (by decide) k_262 rfl dX3_put_12 ?_
  refine lv_iload_n hx hb dX3_put_15 rfl (lv_at hl 2 rfl) ?_
  refine lv_iload_n hx hb dX3_put_16 rfl (lv_at hl 0 rfl) ?_
  refine r_ishr (v := (x >>> (16 &&& 31))) F dX3_put_17 rfl ?_
  refine lv_i2b (v := ((x >>> (16 &&& 31))).toInt8.toInt32) hx hb dX3_put_18 rfl ?_
  refine r_bastX F hK hP hD hS 1 1 rfl rfl (bw_vin (by decide)) dX3_put_19 (w1 := fun f2 => [(b, .inr (3, [.ref (q 20), .int 5, .ref (q 21), .ref (q 22), .int 0, .int 0, .ref (q 23), .ref (q 24), .int 0, .int 24, .int 0, .int 0, .long 0, .int 0])), ((q 20), .inl (cB, 900, .inl f2))]) (fun _ => rfl) (fun f2 H locs hP hD hS => ?_)
  refine lv_aload_n hx hb dX3_put_20 rfl (lv_at hl 1 rfl) ?_
  refine lv_dup hx hb dX3_put_21 rfl ?_
  refine r_get F hK hP 0 1 rfl rfl in_X3 (by decide) k_262 rfl dX3_put_22 ?_
  refine lv_iconst (v := 1) hx hb dX3_put_25 (by decide) ?_
  refine r_iadd (v := 6) F dX3_put_26 (by decide) ?_
  refine r_put F hK hP hD hS 0 1 rfl rfl in_X3 tyX3 tyX3_ok nmX3 (by decide) k_262 rfl rfl rfl (Nat.le_of_ble_eq_true rfl) dX3_put_27 (w1 := [(b, .inr (3, [.ref (q 20), .int 6, .ref (q 21), .ref (q 22), .int 0, .int 0, .ref (q 23), .ref (q 24), .int 0, .int 24, .int 0, .int 0, .long 0, .int 0])), ((q 20), .inl (cB, 900, .inl f2))]) rfl (fun H locs hP hD hS => ?_)
  refine lv_iinc (v := 8) (lv' := [(2, .int 8), (0, .ref b), (1, .int x)]) hx hb dX3_put_30 hl (k := 0) rfl (by decide) (by decide) rfl (fun ls hl => ?_)
  refine lv_goto (tgt := 3) hx hb dX3_put_33 (by decide) ?_
  refine lv_iload_n hx hb dX3_put_3 rfl (lv_at hl 0 rfl) ?_
  refine lv_if_lt (tgt := 36) hx hb dX3_put_4 (by decide) (fun h9 => absurd h9 (by decide)) (fun _ => ?_)
  refine lv_aload_n hx hb dX3_put_7 rfl (lv_at hl 1 rfl) ?_
  refine r_get F hK hP 0 0 rfl rfl in_X3 (by decide) k_261 rfl dX3_put_8 ?_
  refine lv_aload_n hx hb dX3_put_11 rfl (lv_at hl 1 rfl) ?_
  refine r_get F hK hP 0 1 rfl rfl in_X3 (by decide) k_262 rfl dX3_put_12 ?_
  refine lv_iload_n hx hb dX3_put_15 rfl (lv_at hl 2 rfl) ?_
  refine lv_iload_n hx hb dX3_put_16 rfl (lv_at hl 0 rfl) ?_
  refine r_ishr (v := (x >>> (8 &&& 31))) F dX3_put_17 rfl ?_
  refine lv_i2b (v := ((x >>> (8 &&& 31))).toInt8.toInt32) hx hb dX3_put_18 rfl ?_
  refine r_bastX F hK hP hD hS 1 1 rfl rfl (bw_vin (by decide)) dX3_put_19 (w1 := fun f3 => [(b, .inr (3, [.ref (q 20), .int 6, .ref (q 21), .ref (q 22), .int 0, .int 0, .ref (q 23), .ref (q 24), .int 0, .int 24, .int 0, .int 0, .long 0, .int 0])), ((q 20), .inl (cB, 900, .inl f3))]) (fun _ => rfl) (fun f3 H locs hP hD hS => ?_)
  refine lv_aload_n hx hb dX3_put_20 rfl (lv_at hl 1 rfl) ?_
  refine lv_dup hx hb dX3_put_21 rfl ?_
  refine r_get F hK hP 0 1 rfl rfl in_X3 (by decide) k_262 rfl dX3_put_22 ?_
  refine lv_iconst (v := 1) hx hb dX3_put_25 (by decide) ?_
  refine r_iadd (v := 7) F dX3_put_26 (by decide) ?_
  refine r_put F hK hP hD hS 0 1 rfl rfl in_X3 tyX3 tyX3_ok nmX3 (by decide) k_262 rfl rfl rfl (Nat.le_of_ble_eq_true rfl) dX3_put_27 (w1 := [(b, .inr (3, [.ref (q 20), .int 7, .ref (q 21), .ref (q 22), .int 0, .int 0, .ref (q 23), .ref (q 24), .int 0, .int 24, .int 0, .int 0, .long 0, .int 0])), ((q 20), .inl (cB, 900, .inl f3))]) rfl (fun H locs hP hD hS => ?_)
  refine lv_iinc (v := 0) (lv' := [(2, .int 0), (0, .ref b), (1, .int x)]) hx hb dX3_put_30 hl (k := 0) rfl (by decide) (by decide) rfl (fun ls hl => ?_)
  refine lv_goto (tgt := 3) hx hb dX3_put_33 (by decide) ?_
  refine lv_iload_n hx hb dX3_put_3 rfl (lv_at hl 0 rfl) ?_
  refine lv_if_lt (tgt := 36) hx hb dX3_put_4 (by decide) (fun h9 => absurd h9 (by decide)) (fun _ => ?_)
  refine lv_aload_n hx hb dX3_put_7 rfl (lv_at hl 1 rfl) ?_
  refine r_get F hK hP 0 0 rfl rfl in_X3 (by decide) k_261 rfl dX3_put_8 ?_
  refine lv_aload_n hx hb dX3_put_11 rfl (lv_at hl 1 rfl) ?_
  refine r_get F hK hP 0 1 rfl rfl in_X3 (by decide) k_262 rfl dX3_put_12 ?_
  refine lv_iload_n hx hb dX3_put_15 rfl (lv_at hl 2 rfl) ?_
  refine lv_iload_n hx hb dX3_put_16 rfl (lv_at hl 0 rfl) ?_
  refine r_ishr (v := (x >>> (0 &&& 31))) F dX3_put_17 rfl ?_
  refine lv_i2b (v := ((x >>> (0 &&& 31))).toInt8.toInt32) hx hb dX3_put_18 rfl ?_
  refine r_bastX F hK hP hD hS 1 1 rfl rfl (bw_vin (by decide)) dX3_put_19 (w1 := fun f4 => [(b, .inr (3, [.ref (q 20), .int 7, .ref (q 21), .ref (q 22), .int 0, .int 0, .ref (q 23), .ref (q 24), .int 0, .int 24, .int 0, .int 0, .long 0, .int 0])), ((q 20), .inl (cB, 900, .inl f4))]) (fun _ => rfl) (fun f4 H locs hP hD hS => ?_)
  refine lv_aload_n hx hb dX3_put_20 rfl (lv_at hl 1 rfl) ?_
  refine lv_dup hx hb dX3_put_21 rfl ?_
  refine r_get F hK hP 0 1 rfl rfl in_X3 (by decide) k_262 rfl dX3_put_22 ?_
  refine lv_iconst (v := 1) hx hb dX3_put_25 (by decide) ?_
  refine r_iadd (v := 8) F dX3_put_26 (by decide) ?_
  refine r_put F hK hP hD hS 0 1 rfl rfl in_X3 tyX3 tyX3_ok nmX3 (by decide) k_262 rfl rfl rfl (Nat.le_of_ble_eq_true rfl) dX3_put_27 (w1 := [(b, .inr (3, [.ref (q 20), .int 8, .ref (q 21), .ref (q 22), .int 0, .int 0, .ref (q 23), .ref (q 24), .int 0, .int 24, .int 0, .int 0, .long 0, .int 0])), ((q 20), .inl (cB, 900, .inl f4))]) rfl (fun H locs hP hD hS => ?_)
  refine lv_iinc (v := (-8)) (lv' := [(2, .int (-8)), (0, .ref b), (1, .int x)]) hx hb dX3_put_30 hl (k := 0) rfl (by decide) (by decide) rfl (fun ls hl => ?_)
  refine lv_goto (tgt := 3) hx hb dX3_put_33 (by decide) ?_
  refine lv_iload_n hx hb dX3_put_3 rfl (lv_at hl 0 rfl) ?_
  refine lv_if_lt (tgt := 36) hx hb dX3_put_4 (by decide) (fun _ => ?_) (fun h9 => absurd (by decide) h9)
  exact ret (fun _ => 0, fun _ => f4) _ _ _ _ _ _ trivial (bw_subP (isC := [0, 1]) hP rfl) (hD.sub [0, 1] (by decide) rfl) hS (Nat.le_of_ble_eq_true rfl) (Nat.le_of_ble_eq_true rfl) dX3_put_36
abbrev rm_X3_put_8 : Room := { frames := 0, cells := 0, slots := 0, locals := 0 }
set_option maxRecDepth 100000 in
set_option maxHeartbeats 4000000 in
theorem c_X3_put_8 {l : Launch} {E : (Nat → Prop) → State → Prop} (hO : bw_Ok E) {G : va_G} {cI cB cJ cN cW : ClassId} (b : Nat) (q : Nat → Nat) (f : Nat → Int32) (x : Int32) : bw_Cv (S := bw_U) l yX3_put (bw_ws (Cond.code yX3_put cX3_put 3 none)) rm_X3_put_8 E G (bw_kt cI cB cJ cN cW) [.ref b, .int x] [(b, .inr (3, [.ref (q 20), .int 8, .ref (q 21), .ref (q 22), .int 0, .int 0, .ref (q 23), .ref (q 24), .int 0, .int 24, .int 0, .int 0, .long 0, .int 0])), ((q 20), .inl (cB, 900, .inl f))] (fun _ => True) (fun u => [(b, .inr (3, [.ref (q 20), .int 12, .ref (q 21), .ref (q 22), .int 0, .int 0, .ref (q 23), .ref (q 24), .int 0, .int 24, .int 0, .int 0, .long 0, .int 0])), ((q 20), .inl (cB, 900, .inl (u.2 0)))]) := by
  refine bw_Cv.of (cc := cX3_put) (maxL := 3) (by decide) rfl (Nat.le_of_ble_eq_true rfl) ?_
  intro p e s m below meth c A Q hx hb hml hts hown hin hK hA hS hP hD hE ret ls hl
  have F : CallFix p m c cX3_put 3 s ([.ref b, .int x] : List Value).toArray bw_T RX3 := ⟨hx, hb, hml, hown, fun w h => hts w (List.mem_cons_of_mem _ h)⟩
  have hl : lv_has ls 3 [(0, .ref b), (1, .int x)] := hl
  refine lv_bipush (v := 24) hx hb dX3_put_0 (by decide) ?_
  refine lv_istore_n (lv' := [(2, .int 24), (0, .ref b), (1, .int x)]) hx hb dX3_put_2 rfl hl (by decide) rfl (fun ls hl => ?_)
  refine lv_iload_n hx hb dX3_put_3 rfl (lv_at hl 0 rfl) ?_
  refine lv_if_lt (tgt := 36) hx hb dX3_put_4 (by decide) (fun h9 => absurd h9 (by decide)) (fun _ => ?_)
  refine lv_aload_n hx hb dX3_put_7 rfl (lv_at hl 1 rfl) ?_
  refine r_get F hK hP 0 0 rfl rfl in_X3 (by decide) k_261 rfl dX3_put_8 ?_
  refine lv_aload_n hx hb dX3_put_11 rfl (lv_at hl 1 rfl) ?_
  refine r_get F hK hP 0 1 rfl rfl in_X3 (by decide) k_262 rfl dX3_put_12 ?_
  refine lv_iload_n hx hb dX3_put_15 rfl (lv_at hl 2 rfl) ?_
  refine lv_iload_n hx hb dX3_put_16 rfl (lv_at hl 0 rfl) ?_
  refine r_ishr (v := (x >>> (24 &&& 31))) F dX3_put_17 rfl ?_
  refine lv_i2b (v := ((x >>> (24 &&& 31))).toInt8.toInt32) hx hb dX3_put_18 rfl ?_
  refine r_bastX F hK hP hD hS 1 1 rfl rfl (bw_vin (by decide)) dX3_put_19 (w1 := fun f1 => [(b, .inr (3, [.ref (q 20), .int 8, .ref (q 21), .ref (q 22), .int 0, .int 0, .ref (q 23), .ref (q 24), .int 0, .int 24, .int 0, .int 0, .long 0, .int 0])), ((q 20), .inl (cB, 900, .inl f1))]) (fun _ => rfl) (fun f1 H locs hP hD hS => ?_)
  refine lv_aload_n hx hb dX3_put_20 rfl (lv_at hl 1 rfl) ?_
  refine lv_dup hx hb dX3_put_21 rfl ?_
  refine r_get F hK hP 0 1 rfl rfl in_X3 (by decide) k_262 rfl dX3_put_22 ?_
  refine lv_iconst (v := 1) hx hb dX3_put_25 (by decide) ?_
  refine r_iadd (v := 9) F dX3_put_26 (by decide) ?_
  refine r_put F hK hP hD hS 0 1 rfl rfl in_X3 tyX3 tyX3_ok nmX3 (by decide) k_262 rfl rfl rfl (Nat.le_of_ble_eq_true rfl) dX3_put_27 (w1 := [(b, .inr (3, [.ref (q 20), .int 9, .ref (q 21), .ref (q 22), .int 0, .int 0, .ref (q 23), .ref (q 24), .int 0, .int 24, .int 0, .int 0, .long 0, .int 0])), ((q 20), .inl (cB, 900, .inl f1))]) rfl (fun H locs hP hD hS => ?_)
  refine lv_iinc (v := 16) (lv' := [(2, .int 16), (0, .ref b), (1, .int x)]) hx hb dX3_put_30 hl (k := 0) rfl (by decide) (by decide) rfl (fun ls hl => ?_)
  refine lv_goto (tgt := 3) hx hb dX3_put_33 (by decide) ?_
  refine lv_iload_n hx hb dX3_put_3 rfl (lv_at hl 0 rfl) ?_
  refine lv_if_lt (tgt := 36) hx hb dX3_put_4 (by decide) (fun h9 => absurd h9 (by decide)) (fun _ => ?_)
  refine lv_aload_n hx hb dX3_put_7 rfl (lv_at hl 1 rfl) ?_
  refine r_get F hK hP 0 0 rfl rfl in_X3 (by decide) k_261 rfl dX3_put_8 ?_
  refine lv_aload_n hx hb dX3_put_11 rfl (lv_at hl 1 rfl) ?_
  refine r_get F hK hP 0 1 rfl rfl in_X3 (by decide) k_262 rfl dX3_put_12 ?_
  refine lv_iload_n hx hb dX3_put_15 rfl (lv_at hl 2 rfl) ?_
  refine lv_iload_n hx hb dX3_put_16 rfl (lv_at hl 0 rfl) ?_
  refine r_ishr (v := (x >>> (16 &&& 31))) F dX3_put_17 rfl ?_
  refine lv_i2b (v := ((x >>> (16 &&& 31))).toInt8.toInt32) hx hb dX3_put_18 rfl ?_
  refine r_bastX F hK hP hD hS 1 1 rfl rfl (bw_vin (by decide)) dX3_put_19 (w1 := fun f2 => [(b, .inr (3, [.ref (q 20), .int 9, .ref (q 21), .ref (q 22), .int 0, .int 0, .ref (q 23), .ref (q 24), .int 0, .int 24, .int 0, .int 0, .long 0, .int 0])), ((q 20), .inl (cB, 900, .inl f2))]) (fun _ => rfl) (fun f2 H locs hP hD hS => ?_)
  refine lv_aload_n hx hb dX3_put_20 rfl (lv_at hl 1 rfl) ?_
  refine lv_dup hx hb dX3_put_21 rfl ?_
  refine r_get F hK hP 0 1 rfl rfl in_X3 (by decide) k_262 rfl dX3_put_22 ?_
  refine lv_iconst (v := 1) hx hb dX3_put_25 (by decide) ?_
  refine r_iadd (v := 10) F dX3_put_26 (by decide) ?_
  refine r_put F hK hP hD hS 0 1 rfl rfl in_X3 tyX3 tyX3_ok nmX3 (by decide) k_262 rfl rfl rfl (Nat.le_of_ble_eq_true rfl) dX3_put_27 (w1 := [(b, .inr (3, [.ref (q 20), .int 10, .ref (q 21), .ref (q 22), .int 0, .int 0, .ref (q 23), .ref (q 24), .int 0, .int 24, .int 0, .int 0, .long 0, .int 0])), ((q 20), .inl (cB, 900, .inl f2))]) rfl (fun H locs hP hD hS => ?_)
  refine lv_iinc (v := 8) (lv' := [(2, .int 8), (0, .ref b), (1, .int x)]) hx hb dX3_put_30 hl (k := 0) rfl (by decide) (by decide) rfl (fun ls hl => ?_)
  refine lv_goto (tgt := 3) hx hb dX3_put_33 (by decide) ?_
  refine lv_iload_n hx hb dX3_put_3 rfl (lv_at hl 0 rfl) ?_
  refine lv_if_lt (tgt := 36) hx hb dX3_put_4 (by decide) (fun h9 => absurd h9 (by decide)) (fun _ => ?_)
  refine lv_aload_n hx hb dX3_put_7 rfl (lv_at hl 1 rfl) ?_
  refine r_get F hK hP 0 0 rfl rfl in_X3 (by decide) k_261 rfl dX3_put_8 ?_
  refine lv_aload_n hx hb dX3_put_11 rfl (lv_at hl 1 rfl) ?_
  refine r_get F hK hP 0 1 rfl rfl in_X3 (by decide) k_262 rfl dX3_put_12 ?_
  refine lv_iload_n hx hb dX3_put_15 rfl (lv_at hl 2 rfl) ?_
  refine lv_iload_n hx hb dX3_put_16 rfl (lv_at hl 0 rfl) ?_
  refine r_ishr (v := (x >>> (8 &&& 31))) F dX3_put_17 rfl ?_
  refine lv_i2b (v := ((x >>> (8 &&& 31))).toInt8.toInt32) hx hb dX3_put_18 rfl ?_
  refine r_bastX F hK hP hD hS 1 1 rfl rfl (bw_vin (by decide)) dX3_put_19 (w1 := fun f3 => [(b, .inr (3, [.ref (q 20), .int 10, .ref (q 21), .ref (q 22), .int 0, .int 0, .ref (q 23), .ref (q 24), .int 0, .int 24, .int 0, .int 0, .long 0, .int 0])), ((q 20), .inl (cB, 900, .inl f3))]) (fun _ => rfl) (fun f3 H locs hP hD hS => ?_)
  refine lv_aload_n hx hb dX3_put_20 rfl (lv_at hl 1 rfl) ?_
  refine lv_dup hx hb dX3_put_21 rfl ?_
  refine r_get F hK hP 0 1 rfl rfl in_X3 (by decide) k_262 rfl dX3_put_22 ?_
  refine lv_iconst (v := 1) hx hb dX3_put_25 (by decide) ?_
  refine r_iadd (v := 11) F dX3_put_26 (by decide) ?_
  refine r_put F hK hP hD hS 0 1 rfl rfl in_X3 tyX3 tyX3_ok nmX3 (by decide) k_262 rfl rfl rfl (Nat.le_of_ble_eq_true rfl) dX3_put_27 (w1 := [(b, .inr (3, [.ref (q 20), .int 11, .ref (q 21), .ref (q 22), .int 0, .int 0, .ref (q 23), .ref (q 24), .int 0, .int 24, .int 0, .int 0, .long 0, .int 0])), ((q 20), .inl (cB, 900, .inl f3))]) rfl (fun H locs hP hD hS => ?_)
  refine lv_iinc (v := 0) (lv' := [(2, .int 0), (0, .ref b), (1, .int x)]) hx hb dX3_put_30 hl (k := 0) rfl (by decide) (by decide) rfl (fun ls hl => ?_)
  refine lv_goto (tgt := 3) hx hb dX3_put_33 (by decide) ?_
  refine lv_iload_n hx hb dX3_put_3 rfl (lv_at hl 0 rfl) ?_
  refine lv_if_lt (tgt := 36) hx hb dX3_put_4 (by decide) (fun h9 => absurd h9 (by decide)) (fun _ => ?_)
  refine lv_aload_n hx hb dX3_put_7 rfl (lv_at hl 1 rfl) ?_
  refine r_get F hK hP 0 0 rfl rfl in_X3 (by decide) k_261 rfl dX3_put_8 ?_
  refine lv_aload_n hx hb dX3_put_11 rfl (lv_at hl 1 rfl) ?_
  refine r_get F hK hP 0 1 rfl rfl in_X3 (by decide) k_262 rfl dX3_put_12 ?_
  refine lv_iload_n hx hb dX3_put_15 rfl (lv_at hl 2 rfl) ?_
  refine lv_iload_n hx hb dX3_put_16 rfl (lv_at hl 0 rfl) ?_
  refine r_ishr (v := (x >>> (0 &&& 31))) F dX3_put_17 rfl ?_
  refine lv_i2b (v := ((x >>> (0 &&& 31))).toInt8.toInt32) hx hb dX3_put_18 rfl ?_
  refine r_bastX F hK hP hD hS 1 1 rfl rfl (bw_vin (by decide)) dX3_put_19 (w1 := fun f4 => [(b, .inr (3, [.ref (q 20), .int 11, .ref (q 21), .ref (q 22), .int 0, .int 0, .ref (q 23), .ref (q 24), .int 0, .int 24, .int 0, .int 0, .long 0, .int 0])), ((q 20), .inl (cB, 900, .inl f4))]) (fun _ => rfl) (fun f4 H locs hP hD hS => ?_)
  refine lv_aload_n hx hb dX3_put_20 rfl (lv_at hl 1 rfl) ?_
  refine lv_dup hx hb dX3_put_21 rfl ?_
  refine r_get F hK hP 0 1 rfl rfl in_X3 (by decide) k_262 rfl dX3_put_22 ?_
  refine lv_iconst (v := 1) hx hb dX3_put_25 (by decide) ?_
  refine r_iadd (v := 12) F dX3_put_26 (by decide) ?_
  refine r_put F hK hP hD hS 0 1 rfl rfl in_X3 tyX3 tyX3_ok nmX3 (by decide) k_262 rfl rfl rfl (Nat.le_of_ble_eq_true rfl) dX3_put_27 (w1 := [(b, .inr (3, [.ref (q 20), .int 12, .ref (q 21), .ref (q 22), .int 0, .int 0, .ref (q 23), .ref (q 24), .int 0, .int 24, .int 0, .int 0, .long 0, .int 0])), ((q 20), .inl (cB, 900, .inl f4))]) rfl (fun H locs hP hD hS => ?_)
  refine lv_iinc (v := (-8)) (lv' := [(2, .int (-8)), (0, .ref b), (1, .int x)]) hx hb dX3_put_30 hl (k := 0) rfl (by decide) (by decide) rfl (fun ls hl => ?_)
  refine lv_goto (tgt := 3) hx hb dX3_put_33 (by decide) ?_
  refine lv_iload_n hx hb dX3_put_3 rfl (lv_at hl 0 rfl) ?_
  refine lv_if_lt (tgt := 36) hx hb dX3_put_4 (by decide) (fun _ => ?_) (fun h9 => absurd (by decide) h9)
  exact ret (fun _ => 0, fun _ => f4) _ _ _ _ _ _ trivial (bw_subP (isC := [0, 1]) hP rfl) (hD.sub [0, 1] (by decide) rfl) hS (Nat.le_of_ble_eq_true rfl) (Nat.le_of_ble_eq_true rfl) dX3_put_36
abbrev rm_X3_put_12 : Room := { frames := 0, cells := 0, slots := 0, locals := 0 }
set_option maxRecDepth 100000 in
set_option maxHeartbeats 4000000 in
theorem c_X3_put_12 {l : Launch} {E : (Nat → Prop) → State → Prop} (hO : bw_Ok E) {G : va_G} {cI cB cJ cN cW : ClassId} (b : Nat) (q : Nat → Nat) (f : Nat → Int32) (x : Int32) : bw_Cv (S := bw_U) l yX3_put (bw_ws (Cond.code yX3_put cX3_put 3 none)) rm_X3_put_12 E G (bw_kt cI cB cJ cN cW) [.ref b, .int x] [(b, .inr (3, [.ref (q 20), .int 12, .ref (q 21), .ref (q 22), .int 0, .int 0, .ref (q 23), .ref (q 24), .int 0, .int 24, .int 0, .int 0, .long 0, .int 0])), ((q 20), .inl (cB, 900, .inl f))] (fun _ => True) (fun u => [(b, .inr (3, [.ref (q 20), .int 16, .ref (q 21), .ref (q 22), .int 0, .int 0, .ref (q 23), .ref (q 24), .int 0, .int 24, .int 0, .int 0, .long 0, .int 0])), ((q 20), .inl (cB, 900, .inl (u.2 0)))]) := by
  refine bw_Cv.of (cc := cX3_put) (maxL := 3) (by decide) rfl (Nat.le_of_ble_eq_true rfl) ?_
  intro p e s m below meth c A Q hx hb hml hts hown hin hK hA hS hP hD hE ret ls hl
  have F : CallFix p m c cX3_put 3 s ([.ref b, .int x] : List Value).toArray bw_T RX3 := ⟨hx, hb, hml, hown, fun w h => hts w (List.mem_cons_of_mem _ h)⟩
  have hl : lv_has ls 3 [(0, .ref b), (1, .int x)] := hl
  refine lv_bipush (v := 24) hx hb dX3_put_0 (by decide) ?_
  refine lv_istore_n (lv' := [(2, .int 24), (0, .ref b), (1, .int x)]) hx hb dX3_put_2 rfl hl (by decide) rfl (fun ls hl => ?_)
  refine lv_iload_n hx hb dX3_put_3 rfl (lv_at hl 0 rfl) ?_
  refine lv_if_lt (tgt := 36) hx hb dX3_put_4 (by decide) (fun h9 => absurd h9 (by decide)) (fun _ => ?_)
  refine lv_aload_n hx hb dX3_put_7 rfl (lv_at hl 1 rfl) ?_
  refine r_get F hK hP 0 0 rfl rfl in_X3 (by decide) k_261 rfl dX3_put_8 ?_
  refine lv_aload_n hx hb dX3_put_11 rfl (lv_at hl 1 rfl) ?_
  refine r_get F hK hP 0 1 rfl rfl in_X3 (by decide) k_262 rfl dX3_put_12 ?_
  refine lv_iload_n hx hb dX3_put_15 rfl (lv_at hl 2 rfl) ?_
  refine lv_iload_n hx hb dX3_put_16 rfl (lv_at hl 0 rfl) ?_
  refine r_ishr (v := (x >>> (24 &&& 31))) F dX3_put_17 rfl ?_
  refine lv_i2b (v := ((x >>> (24 &&& 31))).toInt8.toInt32) hx hb dX3_put_18 rfl ?_
  refine r_bastX F hK hP hD hS 1 1 rfl rfl (bw_vin (by decide)) dX3_put_19 (w1 := fun f1 => [(b, .inr (3, [.ref (q 20), .int 12, .ref (q 21), .ref (q 22), .int 0, .int 0, .ref (q 23), .ref (q 24), .int 0, .int 24, .int 0, .int 0, .long 0, .int 0])), ((q 20), .inl (cB, 900, .inl f1))]) (fun _ => rfl) (fun f1 H locs hP hD hS => ?_)
  refine lv_aload_n hx hb dX3_put_20 rfl (lv_at hl 1 rfl) ?_
  refine lv_dup hx hb dX3_put_21 rfl ?_
  refine r_get F hK hP 0 1 rfl rfl in_X3 (by decide) k_262 rfl dX3_put_22 ?_
  refine lv_iconst (v := 1) hx hb dX3_put_25 (by decide) ?_
  refine r_iadd (v := 13) F dX3_put_26 (by decide) ?_
  refine r_put F hK hP hD hS 0 1 rfl rfl in_X3 tyX3 tyX3_ok nmX3 (by decide) k_262 rfl rfl rfl (Nat.le_of_ble_eq_true rfl) dX3_put_27 (w1 := [(b, .inr (3, [.ref (q 20), .int 13, .ref (q 21), .ref (q 22), .int 0, .int 0, .ref (q 23), .ref (q 24), .int 0, .int 24, .int 0, .int 0, .long 0, .int 0])), ((q 20), .inl (cB, 900, .inl f1))]) rfl (fun H locs hP hD hS => ?_)
  refine lv_iinc (v := 16) (lv' := [(2, .int 16), (0, .ref b), (1, .int x)]) hx hb dX3_put_30 hl (k := 0) rfl (by decide) (by decide) rfl (fun ls hl => ?_)
  refine lv_goto (tgt := 3) hx hb dX3_put_33 (by decide) ?_
  refine lv_iload_n hx hb dX3_put_3 rfl (lv_at hl 0 rfl) ?_
  refine lv_if_lt (tgt := 36) hx hb dX3_put_4 (by decide) (fun h9 => absurd h9 (by decide)) (fun _ => ?_)
  refine lv_aload_n hx hb dX3_put_7 rfl (lv_at hl 1 rfl) ?_
  refine r_get F hK hP 0 0 rfl rfl in_X3 (by decide) k_261 rfl dX3_put_8 ?_
  refine lv_aload_n hx hb dX3_put_11 rfl (lv_at hl 1 rfl) ?_
  refine r_get F hK hP 0 1 rfl rfl in_X3 (by decide) k_262 rfl dX3_put_12 ?_
  refine lv_iload_n hx hb dX3_put_15 rfl (lv_at hl 2 rfl) ?_
  refine lv_iload_n hx hb dX3_put_16 rfl (lv_at hl 0 rfl) ?_
  refine r_ishr (v := (x >>> (16 &&& 31))) F dX3_put_17 rfl ?_
  refine lv_i2b (v := ((x >>> (16 &&& 31))).toInt8.toInt32) hx hb dX3_put_18 rfl ?_
  refine r_bastX F hK hP hD hS 1 1 rfl rfl (bw_vin (by decide)) dX3_put_19 (w1 := fun f2 => [(b, .inr (3, [.ref (q 20), .int 13, .ref (q 21), .ref (q 22), .int 0, .int 0, .ref (q 23), .ref (q 24), .int 0, .int 24, .int 0, .int 0, .long 0, .int 0])), ((q 20), .inl (cB, 900, .inl f2))]) (fun _ => rfl) (fun f2 H locs hP hD hS => ?_)
  refine lv_aload_n hx hb dX3_put_20 rfl (lv_at hl 1 rfl) ?_
  refine lv_dup hx hb dX3_put_21 rfl ?_
  refine r_get F hK hP 0 1 rfl rfl in_X3 (by decide) k_262 rfl dX3_put_22 ?_
  refine lv_iconst (v := 1) hx hb dX3_put_25 (by decide) ?_
  refine r_iadd (v := 14) F dX3_put_26 (by decide) ?_
  refine r_put F hK hP hD hS 0 1 rfl rfl in_X3 tyX3 tyX3_ok nmX3 (by decide) k_262 rfl rfl rfl (Nat.le_of_ble_eq_true rfl) dX3_put_27 (w1 := [(b, .inr (3, [.ref (q 20), .int 14, .ref (q 21), .ref (q 22), .int 0, .int 0, .ref (q 23), .ref (q 24), .int 0, .int 24, .int 0, .int 0, .long 0, .int 0])), ((q 20), .inl (cB, 900, .inl f2))]) rfl (fun H locs hP hD hS => ?_)
  refine lv_iinc (v := 8) (lv' := [(2, .int 8), (0, .ref b), (1, .int x)]) hx hb dX3_put_30 hl (k := 0) rfl (by decide) (by decide) rfl (fun ls hl => ?_)
  refine lv_goto (tgt := 3) hx hb dX3_put_33 (by decide) ?_
  refine lv_iload_n hx hb dX3_put_3 rfl (lv_at hl 0 rfl) ?_
  refine lv_if_lt (tgt := 36) hx hb dX3_put_4 (by decide) (fun h9 => absurd h9 (by decide)) (fun _ => ?_)
  refine lv_aload_n hx hb dX3_put_7 rfl (lv_at hl 1 rfl) ?_
  refine r_get F hK hP 0 0 rfl rfl in_X3 (by decide) k_261 rfl dX3_put_8 ?_
  refine lv_aload_n hx hb dX3_put_11 rfl (lv_at hl 1 rfl) ?_
  refine r_get F hK hP 0 1 rfl rfl in_X3 (by decide) k_262 rfl dX3_put_12 ?_
  refine lv_iload_n hx hb dX3_put_15 rfl (lv_at hl 2 rfl) ?_
  refine lv_iload_n hx hb dX3_put_16 rfl (lv_at hl 0 rfl) ?_
  refine r_ishr (v := (x >>> (8 &&& 31))) F dX3_put_17 rfl ?_
  refine lv_i2b (v := ((x >>> (8 &&& 31))).toInt8.toInt32) hx hb dX3_put_18 rfl ?_
  refine r_bastX F hK hP hD hS 1 1 rfl rfl (bw_vin (by decide)) dX3_put_19 (w1 := fun f3 => [(b, .inr (3, [.ref (q 20), .int 14, .ref (q 21), .ref (q 22), .int 0, .int 0, .ref (q 23), .ref (q 24), .int 0, .int 24, .int 0, .int 0, .long 0, .int 0])), ((q 20), .inl (cB, 900, .inl f3))]) (fun _ => rfl) (fun f3 H locs hP hD hS => ?_)
  refine lv_aload_n hx hb dX3_put_20 rfl (lv_at hl 1 rfl) ?_
  refine lv_dup hx hb dX3_put_21 rfl ?_
  refine r_get F hK hP 0 1 rfl rfl in_X3 (by decide) k_262 rfl dX3_put_22 ?_
  refine lv_iconst (v := 1) hx hb dX3_put_25 (by decide) ?_
  refine r_iadd (v := 15) F dX3_put_26 (by decide) ?_
  refine r_put F hK hP hD hS 0 1 rfl rfl in_X3 tyX3 tyX3_ok nmX3 (by decide) k_262 rfl rfl rfl (Nat.le_of_ble_eq_true rfl) dX3_put_27 (w1 := [(b, .inr (3, [.ref (q 20), .int 15, .ref (q 21), .ref (q 22), .int 0, .int 0, .ref (q 23), .ref (q 24), .int 0, .int 24, .int 0, .int 0, .long 0, .int 0])), ((q 20), .inl (cB, 900, .inl f3))]) rfl (fun H locs hP hD hS => ?_)
  refine lv_iinc (v := 0) (lv' := [(2, .int 0), (0, .ref b), (1, .int x)]) hx hb dX3_put_30 hl (k := 0) rfl (by decide) (by decide) rfl (fun ls hl => ?_)
  refine lv_goto (tgt := 3) hx hb dX3_put_33 (by decide) ?_
  refine lv_iload_n hx hb dX3_put_3 rfl (lv_at hl 0 rfl) ?_
  refine lv_if_lt (tgt := 36) hx hb dX3_put_4 (by decide) (fun h9 => absurd h9 (by decide)) (fun _ => ?_)
  refine lv_aload_n hx hb dX3_put_7 rfl (lv_at hl 1 rfl) ?_
  refine r_get F hK hP 0 0 rfl rfl in_X3 (by decide) k_261 rfl dX3_put_8 ?_
  refine lv_aload_n hx hb dX3_put_11 rfl (lv_at hl 1 rfl) ?_
  refine r_get F hK hP 0 1 rfl rfl in_X3 (by decide) k_262 rfl dX3_put_12 ?_
  refine lv_iload_n hx hb dX3_put_15 rfl (lv_at hl 2 rfl) ?_
  refine lv_iload_n hx hb dX3_put_16 rfl (lv_at hl 0 rfl) ?_
  refine r_ishr (v := (x >>> (0 &&& 31))) F dX3_put_17 rfl ?_
  refine lv_i2b (v := ((x >>> (0 &&& 31))).toInt8.toInt32) hx hb dX3_put_18 rfl ?_
  refine r_bastX F hK hP hD hS 1 1 rfl rfl (bw_vin (by decide)) dX3_put_19 (w1 := fun f4 => [(b, .inr (3, [.ref (q 20), .int 15, .ref (q 21), .ref (q 22), .int 0, .int 0, .ref (q 23), .ref (q 24), .int 0, .int 24, .int 0, .int 0, .long 0, .int 0])), ((q 20), .inl (cB, 900, .inl f4))]) (fun _ => rfl) (fun f4 H locs hP hD hS => ?_)
  refine lv_aload_n hx hb dX3_put_20 rfl (lv_at hl 1 rfl) ?_
  refine lv_dup hx hb dX3_put_21 rfl ?_
  refine r_get F hK hP 0 1 rfl rfl in_X3 (by decide) k_262 rfl dX3_put_22 ?_
  refine lv_iconst (v := 1) hx hb dX3_put_25 (by decide) ?_
  refine r_iadd (v := 16) F dX3_put_26 (by decide) ?_
  refine r_put F hK hP hD hS 0 1 rfl rfl in_X3 tyX3 tyX3_ok nmX3 (by decide) k_262 rfl rfl rfl (Nat.le_of_ble_eq_true rfl) dX3_put_27 (w1 := [(b, .inr (3, [.ref (q 20), .int 16, .ref (q 21), .ref (q 22), .int 0, .int 0, .ref (q 23), .ref (q 24), .int 0, .int 24, .int 0, .int 0, .long 0, .int 0])), ((q 20), .inl (cB, 900, .inl f4))]) rfl (fun H locs hP hD hS => ?_)
  refine lv_iinc (v := (-8)) (lv' := [(2, .int (-8)), (0, .ref b), (1, .int x)]) hx hb dX3_put_30 hl (k := 0) rfl (by decide) (by decide) rfl (fun ls hl => ?_)
  refine lv_goto (tgt := 3) hx hb dX3_put_33 (by decide) ?_
  refine lv_iload_n hx hb dX3_put_3 rfl (lv_at hl 0 rfl) ?_
  refine lv_if_lt (tgt := 36) hx hb dX3_put_4 (by decide) (fun _ => ?_) (fun h9 => absurd (by decide) h9)
  exact ret (fun _ => 0, fun _ => f4) _ _ _ _ _ _ trivial (bw_subP (isC := [0, 1]) hP rfl) (hD.sub [0, 1] (by decide) rfl) hS (Nat.le_of_ble_eq_true rfl) (Nat.le_of_ble_eq_true rfl) dX3_put_36
abbrev rm_X3_put_16 : Room := { frames := 0, cells := 0, slots := 0, locals := 0 }
set_option maxRecDepth 100000 in
set_option maxHeartbeats 4000000 in
theorem c_X3_put_16 {l : Launch} {E : (Nat → Prop) → State → Prop} (hO : bw_Ok E) {G : va_G} {cI cB cJ cN cW : ClassId} (b : Nat) (q : Nat → Nat) (f : Nat → Int32) (x : Int32) : bw_Cv (S := bw_U) l yX3_put (bw_ws (Cond.code yX3_put cX3_put 3 none)) rm_X3_put_16 E G (bw_kt cI cB cJ cN cW) [.ref b, .int x] [(b, .inr (3, [.ref (q 20), .int 16, .ref (q 21), .ref (q 22), .int 0, .int 0, .ref (q 23), .ref (q 24), .int 0, .int 24, .int 0, .int 0, .long 0, .int 0])), ((q 20), .inl (cB, 900, .inl f))] (fun _ => True) (fun u => [(b, .inr (3, [.ref (q 20), .int 20, .ref (q 21), .ref (q 22), .int 0, .int 0, .ref (q 23), .ref (q 24), .int 0, .int 24, .int 0, .int 0, .long 0, .int 0])), ((q 20), .inl (cB, 900, .inl (u.2 0)))]) := by
  refine bw_Cv.of (cc := cX3_put) (maxL := 3) (by decide) rfl (Nat.le_of_ble_eq_true rfl) ?_
  intro p e s m below meth c A Q hx hb hml hts hown hin hK hA hS hP hD hE ret ls hl
  have F : CallFix p m c cX3_put 3 s ([.ref b, .int x] : List Value).toArray bw_T RX3 := ⟨hx, hb, hml, hown, fun w h => hts w (List.mem_cons_of_mem _ h)⟩
  have hl : lv_has ls 3 [(0, .ref b), (1, .int x)] := hl
  refine lv_bipush (v := 24) hx hb dX3_put_0 (by decide) ?_
  refine lv_istore_n (lv' := [(2, .int 24), (0, .ref b), (1, .int x)]) hx hb dX3_put_2 rfl hl (by decide) rfl (fun ls hl => ?_)
  refine lv_iload_n hx hb dX3_put_3 rfl (lv_at hl 0 rfl) ?_
  refine lv_if_lt (tgt := 36) hx hb dX3_put_4 (by decide) (fun h9 => absurd h9 (by decide)) (fun _ => ?_)
  refine lv_aload_n hx hb dX3_put_7 rfl (lv_at hl 1 rfl) ?_
  refine r_get F hK hP 0 0 rfl rfl in_X3 (by decide) k_261 rfl dX3_put_8 ?_
  refine lv_aload_n hx hb dX3_put_11 rfl (lv_at hl 1 rfl) ?_
  refine r_get F hK hP 0 1 rfl rfl in_X3 (by decide) k_262 rfl dX3_put_12 ?_
  refine lv_iload_n hx hb dX3_put_15 rfl (lv_at hl 2 rfl) ?_
  refine lv_iload_n hx hb dX3_put_16 rfl (lv_at hl 0 rfl) ?_
  refine r_ishr (v := (x >>> (24 &&& 31))) F dX3_put_17 rfl ?_
  refine lv_i2b (v := ((x >>> (24 &&& 31))).toInt8.toInt32) hx hb dX3_put_18 rfl ?_
  refine r_bastX F hK hP hD hS 1 1 rfl rfl (bw_vin (by decide)) dX3_put_19 (w1 := fun f1 => [(b, .inr (3, [.ref (q 20), .int 16, .ref (q 21), .ref (q 22), .int 0, .int 0, .ref (q 23), .ref (q 24), .int 0, .int 24, .int 0, .int 0, .long 0, .int 0])), ((q 20), .inl (cB, 900, .inl f1))]) (fun _ => rfl) (fun f1 H locs hP hD hS => ?_)
  refine lv_aload_n hx hb dX3_put_20 rfl (lv_at hl 1 rfl) ?_
  refine lv_dup hx hb dX3_put_21 rfl ?_
  refine r_get F hK hP 0 1 rfl rfl in_X3 (by decide) k_262 rfl dX3_put_22 ?_
  refine lv_iconst (v := 1) hx hb dX3_put_25 (by decide) ?_
  refine r_iadd (v := 17) F dX3_put_26 (by decide) ?_
  refine r_put F hK hP hD hS 0 1 rfl rfl in_X3 tyX3 tyX3_ok nmX3 (by decide) k_262 rfl rfl rfl (Nat.le_of_ble_eq_true rfl) dX3_put_27 (w1 := [(b, .inr (3, [.ref (q 20), .int 17, .ref (q 21), .ref (q 22), .int 0, .int 0, .ref (q 23), .ref (q 24), .int 0, .int 24, .int 0, .int 0, .long 0, .int 0])), ((q 20), .inl (cB, 900, .inl f1))]) rfl (fun H locs hP hD hS => ?_)
  refine lv_iinc (v := 16) (lv' := [(2, .int 16), (0, .ref b), (1, .int x)]) hx hb dX3_put_30 hl (k := 0) rfl (by decide) (by decide) rfl (fun ls hl => ?_)
  refine lv_goto (tgt := 3) hx hb dX3_put_33 (by decide) ?_
  refine lv_iload_n hx hb dX3_put_3 rfl (lv_at hl 0 rfl) ?_
  refine lv_if_lt (tgt := 36) hx hb dX3_put_4 (by decide) (fun h9 => absurd h9 (by decide)) (fun _ => ?_)
  refine lv_aload_n hx hb dX3_put_7 rfl (lv_at hl 1 rfl) ?_
  refine r_get F hK hP 0 0 rfl rfl in_X3 (by decide) k_261 rfl dX3_put_8 ?_
  refine lv_aload_n hx hb dX3_put_11 rfl (lv_at hl 1 rfl) ?_
  refine r_get F hK hP 0 1 rfl rfl in_X3 (by decide) k_262 rfl dX3_put_12 ?_
  refine lv_iload_n hx hb dX3_put_15 rfl (lv_at hl 2 rfl) ?_
  refine lv_iload_n hx hb dX3_put_16 rfl (lv_at hl 0 rfl) ?_
  refine r_ishr (v := (x >>> (16 &&& 31))) F dX3_put_17 rfl ?_
  refine lv_i2b (v := ((x >>> (16 &&& 31))).toInt8.toInt32) hx hb dX3_put_18 rfl ?_
  refine r_bastX F hK hP hD hS 1 1 rfl rfl (bw_vin (by decide)) dX3_put_19 (w1 := fun f2 => [(b, .inr (3, [.ref (q 20), .int 17, .ref (q 21), .ref (q 22), .int 0, .int 0, .ref (q 23), .ref (q 24), .int 0, .int 24, .int 0, .int 0, .long 0, .int 0])), ((q 20), .inl (cB, 900, .inl f2))]) (fun _ => rfl) (fun f2 H locs hP hD hS => ?_)
  refine lv_aload_n hx hb dX3_put_20 rfl (lv_at hl 1 rfl) ?_
  refine lv_dup hx hb dX3_put_21 rfl ?_
  refine r_get F hK hP 0 1 rfl rfl in_X3 (by decide) k_262 rfl dX3_put_22 ?_
  refine lv_iconst (v := 1) hx hb dX3_put_25 (by decide) ?_
  refine r_iadd (v := 18) F dX3_put_26 (by decide) ?_
  refine r_put F hK hP hD hS 0 1 rfl rfl in_X3 tyX3 tyX3_ok nmX3 (by decide) k_262 rfl rfl rfl (Nat.le_of_ble_eq_true rfl) dX3_put_27 (w1 := [(b, .inr (3, [.ref (q 20), .int 18, .ref (q 21), .ref (q 22), .int 0, .int 0, .ref (q 23), .ref (q 24), .int 0, .int 24, .int 0, .int 0, .long 0, .int 0])), ((q 20), .inl (cB, 900, .inl f2))]) rfl (fun H locs hP hD hS => ?_)
  refine lv_iinc (v := 8) (lv' := [(2, .int 8), (0, .ref b), (1, .int x)]) hx hb dX3_put_30 hl (k := 0) rfl (by decide) (by decide) rfl (fun ls hl => ?_)
  refine lv_goto (tgt := 3) hx hb dX3_put_33 (by decide) ?_
  refine lv_iload_n hx hb dX3_put_3 rfl (lv_at hl 0 rfl) ?_
  refine lv_if_lt (tgt := 36) hx hb dX3_put_4 (by decide) (fun h9 => absurd h9 (by decide)) (fun _ => ?_)
  refine lv_aload_n hx hb dX3_put_7 rfl (lv_at hl 1 rfl) ?_
  refine r_get F hK hP 0 0 rfl rfl in_X3 (by decide) k_261 rfl dX3_put_8 ?_
  refine lv_aload_n hx hb dX3_put_11 rfl (lv_at hl 1 rfl) ?_
  refine r_get F hK hP 0 1 rfl rfl in_X3 (by decide) k_262 rfl dX3_put_12 ?_
  refine lv_iload_n hx hb dX3_put_15 rfl (lv_at hl 2 rfl) ?_
  refine lv_iload_n hx hb dX3_put_16 rfl (lv_at hl 0 rfl) ?_
  refine r_ishr (v := (x >>> (8 &&& 31))) F dX3_put_17 rfl ?_
  refine lv_i2b (v := ((x >>> (8 &&& 31))).toInt8.toInt32) hx hb dX3_put_18 rfl ?_
  refine r_bastX F hK hP hD hS 1 1 rfl rfl (bw_vin (by decide)) dX3_put_19 (w1 := fun f3 => [(b, .inr (3, [.ref (q 20), .int 18, .ref (q 21), .ref (q 22), .int 0, .int 0, .ref (q 23), .ref (q 24), .int 0, .int 24, .int 0, .int 0, .long 0, .int 0])), ((q 20), .inl (cB, 900, .inl f3))]) (fun _ => rfl) (fun f3 H locs hP hD hS => ?_)
  refine lv_aload_n hx hb dX3_put_20 rfl (lv_at hl 1 rfl) ?_
  refine lv_dup hx hb dX3_put_21 rfl ?_
  refine r_get F hK hP 0 1 rfl rfl in_X3 (by decide) k_262 rfl dX3_put_22 ?_
  refine lv_iconst (v := 1) hx hb dX3_put_25 (by decide) ?_
  refine r_iadd (v := 19) F dX3_put_26 (by decide) ?_
  refine r_put F hK hP hD hS 0 1 rfl rfl in_X3 tyX3 tyX3_ok nmX3 (by decide) k_262 rfl rfl rfl (Nat.le_of_ble_eq_true rfl) dX3_put_27 (w1 := [(b, .inr (3, [.ref (q 20), .int 19, .ref (q 21), .ref (q 22), .int 0, .int 0, .ref (q 23), .ref (q 24), .int 0, .int 24, .int 0, .int 0, .long 0, .int 0])), ((q 20), .inl (cB, 900, .inl f3))]) rfl (fun H locs hP hD hS => ?_)
  refine lv_iinc (v := 0) (lv' := [(2, .int 0), (0, .ref b), (1, .int x)]) hx hb dX3_put_30 hl (k := 0) rfl (by decide) (by decide) rfl (fun ls hl => ?_)
  refine lv_goto (tgt := 3) hx hb dX3_put_33 (by decide) ?_
  refine lv_iload_n hx hb dX3_put_3 rfl (lv_at hl 0 rfl) ?_
  refine lv_if_lt (tgt := 36) hx hb dX3_put_4 (by decide) (fun h9 => absurd h9 (by decide)) (fun _ => ?_)
  refine lv_aload_n hx hb dX3_put_7 rfl (lv_at hl 1 rfl) ?_
  refine r_get F hK hP 0 0 rfl rfl in_X3 (by decide) k_261 rfl dX3_put_8 ?_
  refine lv_aload_n hx hb dX3_put_11 rfl (lv_at hl 1 rfl) ?_
  refine r_get F hK hP 0 1 rfl rfl in_X3 (by decide) k_262 rfl dX3_put_12 ?_
  refine lv_iload_n hx hb dX3_put_15 rfl (lv_at hl 2 rfl) ?_
  refine lv_iload_n hx hb dX3_put_16 rfl (lv_at hl 0 rfl) ?_
  refine r_ishr (v := (x >>> (0 &&& 31))) F dX3_put_17 rfl ?_
  refine lv_i2b (v := ((x >>> (0 &&& 31))).toInt8.toInt32) hx hb dX3_put_18 rfl ?_
  refine r_bastX F hK hP hD hS 1 1 rfl rfl (bw_vin (by decide)) dX3_put_19 (w1 := fun f4 => [(b, .inr (3, [.ref (q 20), .int 19, .ref (q 21), .ref (q 22), .int 0, .int 0, .ref (q 23), .ref (q 24), .int 0, .int 24, .int 0, .int 0, .long 0, .int 0])), ((q 20), .inl (cB, 900, .inl f4))]) (fun _ => rfl) (fun f4 H locs hP hD hS => ?_)
  refine lv_aload_n hx hb dX3_put_20 rfl (lv_at hl 1 rfl) ?_
  refine lv_dup hx hb dX3_put_21 rfl ?_
  refine r_get F hK hP 0 1 rfl rfl in_X3 (by decide) k_262 rfl dX3_put_22 ?_
  refine lv_iconst (v := 1) hx hb dX3_put_25 (by decide) ?_
  refine r_iadd (v := 20) F dX3_put_26 (by decide) ?_
  refine r_put F hK hP hD hS 0 1 rfl rfl in_X3 tyX3 tyX3_ok nmX3 (by decide) k_262 rfl rfl rfl (Nat.le_of_ble_eq_true rfl) dX3_put_27 (w1 := [(b, .inr (3, [.ref (q 20), .int 20, .ref (q 21), .ref (q 22), .int 0, .int 0, .ref (q 23), .ref (q 24), .int 0, .int 24, .int 0, .int 0, .long 0, .int 0])), ((q 20), .inl (cB, 900, .inl f4))]) rfl (fun H locs hP hD hS => ?_)
  refine lv_iinc (v := (-8)) (lv' := [(2, .int (-8)), (0, .ref b), (1, .int x)]) hx hb dX3_put_30 hl (k := 0) rfl (by decide) (by decide) rfl (fun ls hl => ?_)
  refine lv_goto (tgt := 3) hx hb dX3_put_33 (by decide) ?_
  refine lv_iload_n hx hb dX3_put_3 rfl (lv_at hl 0 rfl) ?_
  refine lv_if_lt (tgt := 36) hx hb dX3_put_4 (by decide) (fun _ => ?_) (fun h9 => absurd (by decide) h9)
  exact ret (fun _ => 0, fun _ => f4) _ _ _ _ _ _ trivial (bw_subP (isC := [0, 1]) hP rfl) (hD.sub [0, 1] (by decide) rfl) hS (Nat.le_of_ble_eq_true rfl) (Nat.le_of_ble_eq_true rfl) dX3_put_36
theorem dX8_feed_0 : decode cX8_feed 0 = .ok (.aload_n 0, 1) := by decide +kernel
theorem dX8_feed_1 : decode cX8_feed 1 = .ok (.getfield 20, 3) := by decide +kernel
theorem dX8_feed_4 : decode cX8_feed 4 = .ok (.getfield 85, 3) := by decide +kernel
theorem k_263 : Cond.fieldLink RX8 85 "BurntWays$Reader" "tapeLength" "I" ∈ bw_T := bw_m 263 (by decide +kernel) rfl
theorem dX8_feed_7 : decode cX8_feed 7 = .ok (.bipush 20, 2) := by decide +kernel
theorem dX8_feed_9 : decode cX8_feed 9 = .ok (.iadd, 1) := by decide +kernel
theorem dX8_feed_10 : decode cX8_feed 10 = .ok (.sipush 900, 3) := by decide +kernel
theorem dX8_feed_13 : decode cX8_feed 13 = .ok (.if_icmp .le 5, 3) := by decide +kernel
theorem dX8_feed_18 : decode cX8_feed 18 = .ok (.aload_n 0, 1) := by decide +kernel
theorem dX8_feed_19 : decode cX8_feed 19 = .ok (.getfield 20, 3) := by decide +kernel
theorem dX8_feed_22 : decode cX8_feed 22 = .ok (.iload_n 1, 1) := by decide +kernel
theorem dX8_feed_23 : decode cX8_feed 23 = .ok (.invokevirtual 88, 3) := by decide +kernel
theorem k_542 : Cond.methodLink RX8 88 yX3_put ∈ bw_T := bw_m 542 (by decide +kernel) rfl
theorem kv_X3_put : bw_KV RX3 yX3_put (Cond.code yX3_put cX3_put 3 none) := ⟨bw_m 543 (by decide +kernel) rfl, bw_m 544 (by decide +kernel) rfl, bw_m 95 (by decide +kernel) rfl, bw_m 545 (by decide +kernel) rfl⟩
theorem dX8_feed_26 : decode cX8_feed 26 = .ok (.aload_n 0, 1) := by decide +kernel
theorem dX8_feed_27 : decode cX8_feed 27 = .ok (.getfield 20, 3) := by decide +kernel
theorem dX8_feed_30 : decode cX8_feed 30 = .ok (.iload_n 2, 1) := by decide +kernel
theorem dX8_feed_31 : decode cX8_feed 31 = .ok (.invokevirtual 88, 3) := by decide +kernel
theorem dX8_feed_34 : decode cX8_feed 34 = .ok (.aload_n 0, 1) := by decide +kernel
theorem dX8_feed_35 : decode cX8_feed 35 = .ok (.getfield 20, 3) := by decide +kernel
theorem dX8_feed_38 : decode cX8_feed 38 = .ok (.iload_n 3, 1) := by decide +kernel
theorem dX8_feed_39 : decode cX8_feed 39 = .ok (.invokevirtual 88, 3) := by decide +kernel
theorem dX8_feed_42 : decode cX8_feed 42 = .ok (.aload_n 0, 1) := by decide +kernel
theorem dX8_feed_43 : decode cX8_feed 43 = .ok (.getfield 20, 3) := by decide +kernel
theorem dX8_feed_46 : decode cX8_feed 46 = .ok (.iload 4, 2) := by decide +kernel
theorem dX8_feed_48 : decode cX8_feed 48 = .ok (.invokevirtual 88, 3) := by decide +kernel
theorem dX8_feed_51 : decode cX8_feed 51 = .ok (.aload_n 0, 1) := by decide +kernel
theorem dX8_feed_52 : decode cX8_feed 52 = .ok (.getfield 20, 3) := by decide +kernel
theorem dX8_feed_55 : decode cX8_feed 55 = .ok (.iload 5, 2) := by decide +kernel
theorem dX8_feed_57 : decode cX8_feed 57 = .ok (.invokevirtual 88, 3) := by decide +kernel
theorem dX8_feed_60 : decode cX8_feed 60 = .ok (.aload_n 0, 1) := by decide +kernel
theorem dX8_feed_61 : decode cX8_feed 61 = .ok (.getfield 20, 3) := by decide +kernel
theorem dX8_feed_64 : decode cX8_feed 64 = .ok (.getfield 85, 3) := by decide +kernel
theorem dX8_feed_67 : decode cX8_feed 67 = .ok (.ireturn, 1) := by decide +kernel
abbrev rm_X8_feed : Room := { frames := 1, cells := 0, slots := 0, locals := 22 }
set_option maxRecDepth 100000 in
set_option maxHeartbeats 4000000 in
theorem c_X8_feed {l : Launch} {E : (Nat → Prop) → State → Prop} (hO : bw_Ok E) {G : va_G} {cI cB cJ cN cW : ClassId} (b : Nat) (q : Nat → Nat) (a1 : Int32) (a2 : Int32) (a3 : Int32) (a4 : Int32) (a5 : Int32) : bw_Ci (S := bw_U) l yX8_feed (bw_ws (Cond.code yX8_feed cX8_feed 6 (some .int))) rm_X8_feed E G (bw_kt cI cB cJ cN cW) [.ref b, .int a1, .int a2, .int a3, .int a4, .int a5] [(b, .inr (8, [.int 0, .int 0, .ref (q 0), .ref (q 1), .ref (q 2), .ref (q 3), .ref (q 4), .ref (q 5), .ref (q 6), .ref (q 7), .ref (q 8), .ref (q 9), .ref (q 10), .ref (q 11)])), ((q 0), .inr (3, [.ref (q 20), .int 0, .ref (q 21), .ref (q 22), .int 0, .int 0, .ref (q 23), .ref (q 24), .int 0, .int 24, .int 0, .int 0, .long 0, .int 0])), ((q 20), .inl (cB, 900, .inl (fun _ => 0)))] (fun r _ => r = 20) (fun _ => []) := by
  refine bw_Ci.of (cc := cX8_feed) (maxL := 6) (ty := .int) (by decide) rfl (Nat.le_of_ble_eq_true rfl) ?_
  intro p e s m below meth c A Q hx hb hml hts hown hin hK hA hS hP hD hE ret ls hl
  have F : CallFix p m c cX8_feed 6 s ([.ref b, .int a1, .int a2, .int a3, .int a4, .int a5] : List Value).toArray bw_T RX8 := ⟨hx, hb, hml, hown, fun w h => hts w (List.mem_cons_of_mem _ h)⟩
  have hl : lv_has ls 6 [(0, .ref b), (1, .int a1), (2, .int a2), (3, .int a3), (4, .int a4), (5, .int a5)] := hl
  refine lv_aload_n hx hb dX8_feed_0 rfl (lv_at hl 0 rfl) ?_
  refine r_get F hK hP 0 2 rfl rfl in_X8 (by decide) k_497 rfl dX8_feed_1 ?_
  refine r_get F hK hP 1 1 rfl rfl in_X3 (by decide) k_263 rfl dX8_feed_4 ?_
  refine lv_bipush (v := 20) hx hb dX8_feed_7 (by decide) ?_
  refine r_iadd (v := 20) F dX8_feed_9 (by decide) ?_
  refine lv_sipush (v := 900) hx hb dX8_feed_10 (by decide) ?_
  refine lv_icmp_le (tgt := 18) hx hb dX8_feed_13 (by decide) (fun _ => ?_) (fun h9 => absurd (by decide) h9)
  refine lv_aload_n hx hb dX8_feed_18 rfl (lv_at hl 0 rfl) ?_
  refine r_get F hK hP 0 2 rfl rfl in_X8 (by decide) k_497 rfl dX8_feed_19 ?_
  refine lv_iload_n hx hb dX8_feed_22 rfl (lv_at hl 1 rfl) ?_
  refine r_callVv (As := [.int a1]) (rest := []) (wr := [(b, .inr (8, [.int 0, .int 0, .ref (q 0), .ref (q 1), .ref (q 2), .ref (q 3), .ref (q 4), .ref (q 5), .ref (q 6), .ref (q 7), .ref (q 8), .ref (q 9), .ref (q 10), .ref (q 11)]))]) F hK hP hD hS hA hO hE (c_X3_put_0 hO (q 0) q (fun _ => 0) a1) k_542 kv_X3_put 1 rfl (by decide +kernel) ⟨Nat.le_of_ble_eq_true rfl, Nat.le_of_ble_eq_true rfl⟩ [1, 2] [0] rfl rfl (by decide) (by decide) (by decide) 0 3 rfl rfl rfl hl.1 rfl (Nat.le_of_ble_eq_true rfl) dX8_feed_23 ⟨Nat.le_of_ble_eq_true rfl, Nat.le_of_ble_eq_true rfl⟩ (w1 := fun u1 => [(b, .inr (8, [.int 0, .int 0, .ref (q 0), .ref (q 1), .ref (q 2), .ref (q 3), .ref (q 4), .ref (q 5), .ref (q 6), .ref (q 7), .ref (q 8), .ref (q 9), .ref (q 10), .ref (q 11)])), ((q 0), .inr (3, [.ref (q 20), .int 4, .ref (q 21), .ref (q 22), .int 0, .int 0, .ref (q 23), .ref (q 24), .int 0, .int 24, .int 0, .int 0, .long 0, .int 0])), ((q 20), .inl (cB, 900, .inl (u1.2 0)))]) (fun _ => rfl) (fun  u1 H locs hp hP hD hS => ?_)
  refine lv_aload_n hx hb dX8_feed_26 rfl (lv_at hl 0 rfl) ?_
  refine r_get F hK hP 0 2 rfl rfl in_X8 (by decide) k_497 rfl dX8_feed_27 ?_
  refine lv_iload_n hx hb dX8_feed_30 rfl (lv_at hl 2 rfl) ?_
  refine r_callVv (As := [.int a2]) (rest := []) (wr := [(b, .inr (8, [.int 0, .int 0, .ref (q 0), .ref (q 1), .ref (q 2), .ref (q 3), .ref (q 4), .ref (q 5), .ref (q 6), .ref (q 7), .ref (q 8), .ref (q 9), .ref (q 10), .ref (q 11)]))]) F hK hP hD hS hA hO hE (c_X3_put_4 hO (q 0) q (u1.2 0) a2) k_542 kv_X3_put 1 rfl (by decide +kernel) ⟨Nat.le_of_ble_eq_true rfl, Nat.le_of_ble_eq_true rfl⟩ [1, 2] [0] rfl rfl (by decide) (by decide) (by decide) 0 3 rfl rfl rfl hl.1 rfl (Nat.le_of_ble_eq_true rfl) dX8_feed_31 ⟨Nat.le_of_ble_eq_true rfl, Nat.le_of_ble_eq_true rfl⟩ (w1 := fun u2 => [(b, .inr (8, [.int 0, .int 0, .ref (q 0), .ref (q 1), .ref (q 2), .ref (q 3), .ref (q 4), .ref (q 5), .ref (q 6), .ref (q 7), .ref (q 8), .ref (q 9), .ref (q 10), .ref (q 11)])), ((q 0), .inr (3, [.ref (q 20), .int 8, .ref (q 21), .ref (q 22), .int 0, .int 0, .ref (q 23), .ref (q 24), .int 0, .int 24, .int 0, .int 0, .long 0, .int 0])), ((q 20), .inl (cB, 900, .inl (u2.2 0)))]) (fun _ => rfl) (fun  u2 H locs hp hP hD hS => ?_)
  refine lv_aload_n hx hb dX8_feed_34 rfl (lv_at hl 0 rfl) ?_
  refine r_get F hK hP 0 2 rfl rfl in_X8 (by decide) k_497 rfl dX8_feed_35 ?_
  refine lv_iload_n hx hb dX8_feed_38 rfl (lv_at hl 3 rfl) ?_
  refine r_callVv (As := [.int a3]) (rest := []) (wr := [(b, .inr (8, [.int 0, .int 0, .ref (q 0), .ref (q 1), .ref (q 2), .ref (q 3), .ref (q 4), .ref (q 5), .ref (q 6), .ref (q 7), .ref (q 8), .ref (q 9), .ref (q 10), .ref (q 11)]))]) F hK hP hD hS hA hO hE (c_X3_put_8 hO (q 0) q (u2.2 0) a3) k_542 kv_X3_put 1 rfl (by decide +kernel) ⟨Nat.le_of_ble_eq_true rfl, Nat.le_of_ble_eq_true rfl⟩ [1, 2] [0] rfl rfl (by decide) (by decide) (by decide) 0 3 rfl rfl rfl hl.1 rfl (Nat.le_of_ble_eq_true rfl) dX8_feed_39 ⟨Nat.le_of_ble_eq_true rfl, Nat.le_of_ble_eq_true rfl⟩ (w1 := fun u3 => [(b, .inr (8, [.int 0, .int 0, .ref (q 0), .ref (q 1), .ref (q 2), .ref (q 3), .ref (q 4), .ref (q 5), .ref (q 6), .ref (q 7), .ref (q 8), .ref (q 9), .ref (q 10), .ref (q 11)])), ((q 0), .inr (3, [.ref (q 20), .int 12, .ref (q 21), .ref (q 22), .int 0, .int 0, .ref (q 23), .ref (q 24), .int 0, .int 24, .int 0, .int 0, .long 0, .int 0])), ((q 20), .inl (cB, 900, .inl (u3.2 0)))]) (fun _ => rfl) (fun  u3 H locs hp hP hD hS => ?_)
  refine lv_aload_n hx hb dX8_feed_42 rfl (lv_at hl 0 rfl) ?_
  refine r_get F hK hP 0 2 rfl rfl in_X8 (by decide) k_497 rfl dX8_feed_43 ?_
  refine lv_iload hx hb dX8_feed_46 (lv_at hl 4 rfl) ?_
  refine r_callVv (As := [.int a4]) (rest := []) (wr := [(b, .inr (8, [.int 0, .int 0, .ref (q 0), .ref (q 1), .ref (q 2), .ref (q 3), .ref (q 4), .ref (q 5), .ref (q 6), .ref (q 7), .ref (q 8), .ref (q 9), .ref (q 10), .ref (q 11)]))]) F hK hP hD hS hA hO hE (c_X3_put_12 hO (q 0) q (u3.2 0) a4) k_542 kv_X3_put 1 rfl (by decide +kernel) ⟨Nat.le_of_ble_eq_true rfl, Nat.le_of_ble_eq_true rfl⟩ [1, 2] [0] rfl rfl (by decide) (by decide) (by decide) 0 3 rfl rfl rfl hl.1 rfl (Nat.le_of_ble_eq_true rfl) dX8_feed_48 ⟨Nat.le_of_ble_eq_true rfl, Nat.le_of_ble_eq_true rfl⟩ (w1 := fun u4 => [(b, .inr (8, [.int 0, .int 0, .ref (q 0), .ref (q 1), .ref (q 2), .ref (q 3), .ref (q 4), .ref (q 5), .ref (q 6), .ref (q 7), .ref (q 8), .ref (q 9), .ref (q 10), .ref (q 11)])), ((q 0), .inr (3, [.ref (q 20), .int 16, .ref (q 21), .ref (q 22), .int 0, .int 0, .ref (q 23), .ref (q 24), .int 0, .int 24, .int 0, .int 0, .long 0, .int 0])), ((q 20), .inl (cB, 900, .inl (u4.2 0)))]) (fun _ => rfl) (fun  u4 H locs hp hP hD hS => ?_)
  refine lv_aload_n hx hb dX8_feed_51 rfl (lv_at hl 0 rfl) ?_
  refine r_get F hK hP 0 2 rfl rfl in_X8 (by decide) k_497 rfl dX8_feed_52 ?_
  refine lv_iload hx hb dX8_feed_55 (lv_at hl 5 rfl) ?_
  refine r_callVv (As := [.int a5]) (rest := []) (wr := [(b, .inr (8, [.int 0, .int 0, .ref (q 0), .ref (q 1), .ref (q 2), .ref (q 3), .ref (q 4), .ref (q 5), .ref (q 6), .ref (q 7), .ref (q 8), .ref (q 9), .ref (q 10), .ref (q 11)]))]) F hK hP hD hS hA hO hE (c_X3_put_16 hO (q 0) q (u4.2 0) a5) k_542 kv_X3_put 1 rfl (by decide +kernel) ⟨Nat.le_of_ble_eq_true rfl, Nat.le_of_ble_eq_true rfl⟩ [1, 2] [0] rfl rfl (by decide) (by decide) (by decide) 0 3 rfl rfl rfl hl.1 rfl (Nat.le_of_ble_eq_true rfl) dX8_feed_57 ⟨Nat.le_of_ble_eq_true rfl, Nat.le_of_ble_eq_true rfl⟩ (w1 := fun u5 => [(b, .inr (8, [.int 0, .int 0, .ref (q 0), .ref (q 1), .ref (q 2), .ref (q 3), .ref (q 4), .ref (q 5), .ref (q 6), .ref (q 7), .ref (q 8), .ref (q 9), .ref (q 10), .ref (q 11)])), ((q 0), .inr (3, [.ref (q 20), .int 20, .ref (q 21), .ref (q 22), .int 0, .int 0, .ref (q 23), .ref (q 24), .int 0, .int 24, .int 0, .int 0, .long 0, .int 0])), ((q 20), .inl (cB, 900, .inl (u5.2 0)))]) (fun _ => rfl) (fun  u5 H locs hp hP hD hS => ?_)
  refine lv_aload_n hx hb dX8_feed_60 rfl (lv_at hl 0 rfl) ?_
  refine r_get F hK hP 0 2 rfl rfl in_X8 (by decide) k_497 rfl dX8_feed_61 ?_
  refine r_get F hK hP 1 1 rfl rfl in_X3 (by decide) k_263 rfl dX8_feed_64 ?_
  exact ret 20 (fun _ => 0, fun _ _ => 0) _ _ _ _ _ _ rfl rfl (bw_subP (isC := []) hP rfl) (hD.sub [] (by decide) rfl) hS (Nat.le_of_ble_eq_true rfl) (Nat.le_of_ble_eq_true rfl) dX8_feed_67
theorem dX3_advance_0 : decode cX3_advance 0 = .ok (.aload_n 0, 1) := by decide +kernel
theorem dX3_advance_1 : decode cX3_advance 1 = .ok (.aload_n 0, 1) := by decide +kernel
theorem dX3_advance_2 : decode cX3_advance 2 = .ok (.getfield 55, 3) := by decide +kernel
theorem dX3_advance_5 : decode cX3_advance 5 = .ok (.putfield 52, 3) := by decide +kernel
theorem dX3_advance_8 : decode cX3_advance 8 = .ok (.aload_n 0, 1) := by decide +kernel
theorem dX3_advance_9 : decode cX3_advance 9 = .ok (.getfield 52, 3) := by decide +kernel
theorem dX3_advance_12 : decode cX3_advance 12 = .ok (.aload_n 0, 1) := by decide +kernel
theorem dX3_advance_13 : decode cX3_advance 13 = .ok (.getfield 46, 3) := by decide +kernel
theorem dX3_advance_16 : decode cX3_advance 16 = .ok (.if_icmp .ge 30, 3) := by decide +kernel
theorem dX3_advance_46 : decode cX3_advance 46 = .ok (.aload_n 0, 1) := by decide +kernel
theorem dX3_advance_47 : decode cX3_advance 47 = .ok (.aload_n 0, 1) := by decide +kernel
theorem dX3_advance_48 : decode cX3_advance 48 = .ok (.getfield 52, 3) := by decide +kernel
theorem dX3_advance_51 : decode cX3_advance 51 = .ok (.putfield 55, 3) := by decide +kernel
theorem dX3_advance_54 : decode cX3_advance 54 = .ok (.aload_n 0, 1) := by decide +kernel
theorem dX3_advance_55 : decode cX3_advance 55 = .ok (.getfield 52, 3) := by decide +kernel
theorem dX3_advance_58 : decode cX3_advance 58 = .ok (.aload_n 0, 1) := by decide +kernel
theorem dX3_advance_59 : decode cX3_advance 59 = .ok (.getfield 46, 3) := by decide +kernel
theorem dX3_advance_62 : decode cX3_advance 62 = .ok (.if_icmp .lt 10, 3) := by decide +kernel
theorem dX3_advance_65 : decode cX3_advance 65 = .ok (.aload_n 0, 1) := by decide +kernel
theorem dX3_advance_66 : decode cX3_advance 66 = .ok (.bipush 24, 2) := by decide +kernel
theorem dX3_advance_68 : decode cX3_advance 68 = .ok (.putfield 49, 3) := by decide +kernel
theorem dX3_advance_71 : decode cX3_advance 71 = .ok (.return_, 1) := by decide +kernel
abbrev rm_X3_advance : Room := { frames := 0, cells := 0, slots := 0, locals := 0 }
set_option maxRecDepth 100000 in
set_option maxHeartbeats 4000000 in
theorem c_X3_advance {l : Launch} {E : (Nat → Prop) → State → Prop} (hO : bw_Ok E) {G : va_G} {cI cB cJ cN cW : ClassId} (b : Nat) (q : Nat → Nat) : bw_Cv (S := bw_U) l yX3_advance (bw_ws (Cond.code yX3_advance cX3_advance 2 none)) rm_X3_advance E G (bw_kt cI cB cJ cN cW) [.ref b] [(b, .inr (3, [.ref (q 20), .int 0, .ref (q 21), .ref (q 22), .int 0, .int 0, .ref (q 23), .ref (q 24), .int 0, .int 24, .int 0, .int 0, .long 0, .int 0]))] (fun _ => True) (fun _ => [(b, .inr (3, [.ref (q 20), .int 0, .ref (q 21), .ref (q 22), .int 0, .int 0, .ref (q 23), .ref (q 24), .int 0, .int 24, .int 0, .int 0, .long 0, .int 0]))]) := by
  refine bw_Cv.of (cc := cX3_advance) (maxL := 2) (by decide) rfl (Nat.le_of_ble_eq_true rfl) ?_
  intro p e s m below meth c A Q hx hb hml hts hown hin hK hA hS hP hD hE ret ls hl
  have F : CallFix p m c cX3_advance 2 s ([.ref b] : List Value).toArray bw_T RX3 := ⟨hx, hb, hml, hown, fun w h => hts w (List.mem_cons_of_mem _ h)⟩
  have hl : lv_has ls 2 [(0, .ref b)] := hl
  refine lv_aload_n hx hb dX3_advance_0 rfl (lv_at hl 0 rfl) ?_
  refine lv_aload_n hx hb dX3_advance_1 rfl (lv_at hl 0 rfl) ?_
  refine r_get F hK hP 0 11 rfl rfl in_X3 (by decide) k_277 rfl dX3_advance_2 ?_
  refine r_put F hK hP hD hS 0 10 rfl rfl in_X3 tyX3 tyX3_ok nmX3 (by decide) k_276 rfl rfl rfl (Nat.le_of_ble_eq_true rfl) dX3_advance_5 (w1 := [(b, .inr (3, [.ref (q 20), .int 0, .ref (q 21), .ref (q 22), .int 0, .int 0, .ref (q 23), .ref (q 24), .int 0, .int 24, .int 0, .int 0, .long 0, .int 0]))]) rfl (fun H locs hP hD hS => ?_)
  refine lv_aload_n hx hb dX3_advance_8 rfl (lv_at hl 0 rfl) ?_
  refine r_get F hK hP 0 10 rfl rfl in_X3 (by decide) k_276 rfl dX3_advance_9 ?_
  refine lv_aload_n hx hb dX3_advance_12 rfl (lv_at hl 0 rfl) ?_
  refine r_get F hK hP 0 8 rfl rfl in_X3 (by decide) k_274 rfl dX3_advance_13 ?_
  refine lv_icmp_ge (tgt := 46) hx hb dX3_advance_16 (by decide) (fun _ => ?_) (fun h9 => absurd (by decide) h9)
  refine lv_aload_n hx hb dX3_advance_46 rfl (lv_at hl 0 rfl) ?_
  refine lv_aload_n hx hb dX3_advance_47 rfl (lv_at hl 0 rfl) ?_
  refine r_get F hK hP 0 10 rfl rfl in_X3 (by decide) k_276 rfl dX3_advance_48 ?_
  refine r_put F hK hP hD hS 0 11 rfl rfl in_X3 tyX3 tyX3_ok nmX3 (by decide) k_277 rfl rfl rfl (Nat.le_of_ble_eq_true rfl) dX3_advance_51 (w1 := [(b, .inr (3, [.ref (q 20), .int 0, .ref (q 21), .ref (q 22), .int 0, .int 0, .ref (q 23), .ref (q 24), .int 0, .int 24, .int 0, .int 0, .long 0, .int 0]))]) rfl (fun H locs hP hD hS => ?_)
  refine lv_aload_n hx hb dX3_advance_54 rfl (lv_at hl 0 rfl) ?_
  refine r_get F hK hP 0 10 rfl rfl in_X3 (by decide) k_276 rfl dX3_advance_55 ?_
  refine lv_aload_n hx hb dX3_advance_58 rfl (lv_at hl 0 rfl) ?_
  refine r_get F hK hP 0 8 rfl rfl in_X3 (by decide) k_274 rfl dX3_advance_59 ?_
  refine lv_icmp_lt (tgt := 72) hx hb dX3_advance_62 (by decide) (fun h9 => absurd h9 (by decide)) (fun _ => ?_)
  refine lv_aload_n hx hb dX3_advance_65 rfl (lv_at hl 0 rfl) ?_
  refine lv_bipush (v := 24) hx hb dX3_advance_66 (by decide) ?_
  refine r_put F hK hP hD hS 0 9 rfl rfl in_X3 tyX3 tyX3_ok nmX3 (by decide) k_275 rfl rfl rfl (Nat.le_of_ble_eq_true rfl) dX3_advance_68 (w1 := [(b, .inr (3, [.ref (q 20), .int 0, .ref (q 21), .ref (q 22), .int 0, .int 0, .ref (q 23), .ref (q 24), .int 0, .int 24, .int 0, .int 0, .long 0, .int 0]))]) rfl (fun H locs hP hD hS => ?_)
  exact ret (fun _ => 0, fun _ _ => 0) _ _ _ _ _ _ trivial (bw_subP (isC := [0]) hP rfl) (hD.sub [0] (by decide) rfl) hS (Nat.le_of_ble_eq_true rfl) (Nat.le_of_ble_eq_true rfl) dX3_advance_71
theorem dX3_fail_0 : decode cX3_fail 0 = .ok (.aload_n 0, 1) := by decide +kernel
theorem dX3_fail_1 : decode cX3_fail 1 = .ok (.iload_n 1, 1) := by decide +kernel
theorem dX3_fail_2 : decode cX3_fail 2 = .ok (.putfield 33, 3) := by decide +kernel
theorem dX3_fail_5 : decode cX3_fail 5 = .ok (.aload_n 0, 1) := by decide +kernel
theorem dX3_fail_6 : decode cX3_fail 6 = .ok (.aload_n 0, 1) := by decide +kernel
theorem dX3_fail_7 : decode cX3_fail 7 = .ok (.getfield 52, 3) := by decide +kernel
theorem dX3_fail_10 : decode cX3_fail 10 = .ok (.putfield 36, 3) := by decide +kernel
theorem dX3_fail_13 : decode cX3_fail 13 = .ok (.iconst 0, 1) := by decide +kernel
theorem dX3_fail_14 : decode cX3_fail 14 = .ok (.ireturn, 1) := by decide +kernel
abbrev rm_X3_fail : Room := { frames := 0, cells := 0, slots := 0, locals := 0 }
set_option maxRecDepth 100000 in
set_option maxHeartbeats 4000000 in
theorem c_X3_fail {l : Launch} {E : (Nat → Prop) → State → Prop} (hO : bw_Ok E) {G : va_G} {cI cB cJ cN cW : ClassId} (b : Nat) (q : Nat → Nat) (n : Int32) : bw_Ci (S := bw_U) l yX3_fail (bw_ws (Cond.code yX3_fail cX3_fail 2 (some .boolean))) rm_X3_fail E G (bw_kt cI cB cJ cN cW) [.ref b, .int n] [(b, .inr (3, [.ref (q 20), .int 0, .ref (q 21), .ref (q 22), .int 0, .int 0, .ref (q 23), .ref (q 24), .int 0, .int 24, .int 0, .int 0, .long 0, .int 0]))] (fun r _ => r = 0) (fun _ => []) := by
  refine bw_Ci.of (cc := cX3_fail) (maxL := 2) (ty := .boolean) (by decide) rfl (Nat.le_of_ble_eq_true rfl) ?_
  intro p e s m below meth c A Q hx hb hml hts hown hin hK hA hS hP hD hE ret ls hl
  have F : CallFix p m c cX3_fail 2 s ([.ref b, .int n] : List Value).toArray bw_T RX3 := ⟨hx, hb, hml, hown, fun w h => hts w (List.mem_cons_of_mem _ h)⟩
  have hl : lv_has ls 2 [(0, .ref b), (1, .int n)] := hl
  refine lv_aload_n hx hb dX3_fail_0 rfl (lv_at hl 0 rfl) ?_
  refine lv_iload_n hx hb dX3_fail_1 rfl (lv_at hl 1 rfl) ?_
  refine r_put F hK hP hD hS 0 4 rfl rfl in_X3 tyX3 tyX3_ok nmX3 (by decide) k_268 rfl rfl rfl (Nat.le_of_ble_eq_true rfl) dX3_fail_2 (w1 := [(b, .inr (3, [.ref (q 20), .int 0, .ref (q 21), .ref (q 22), .int n, .int 0, .ref (q 23), .ref (q 24), .int 0, .int 24, .int 0, .int 0, .long 0, .int 0]))]) rfl (fun H locs hP hD hS => ?_)
  refine lv_aload_n hx hb dX3_fail_5 rfl (lv_at hl 0 rfl) ?_
  refine lv_aload_n hx hb dX3_fail_6 rfl (lv_at hl 0 rfl) ?_
  refine r_get F hK hP 0 10 rfl rfl in_X3 (by decide) k_276 rfl dX3_fail_7 ?_
  refine r_put F hK hP hD hS 0 5 rfl rfl in_X3 tyX3 tyX3_ok nmX3 (by decide) k_270 rfl rfl rfl (Nat.le_of_ble_eq_true rfl) dX3_fail_10 (w1 := [(b, .inr (3, [.ref (q 20), .int 0, .ref (q 21), .ref (q 22), .int n, .int 0, .ref (q 23), .ref (q 24), .int 0, .int 24, .int 0, .int 0, .long 0, .int 0]))]) rfl (fun H locs hP hD hS => ?_)
  refine lv_iconst (v := 0) hx hb dX3_fail_13 (by decide) ?_
  exact ret 0 (fun _ => 0, fun _ _ => 0) _ _ _ _ _ _ rfl rfl (bw_subP (isC := []) hP rfl) (hD.sub [] (by decide) rfl) hS (Nat.le_of_ble_eq_true rfl) (Nat.le_of_ble_eq_true rfl) dX3_fail_14
theorem dX3_read_0 : decode cX3_read 0 = .ok (.aload_n 0, 1) := by decide +kernel
theorem dX3_read_1 : decode cX3_read 1 = .ok (.iload_n 1, 1) := by decide +kernel
theorem dX3_read_2 : decode cX3_read 2 = .ok (.putfield 46, 3) := by decide +kernel
theorem dX3_read_5 : decode cX3_read 5 = .ok (.aload_n 0, 1) := by decide +kernel
theorem dX3_read_6 : decode cX3_read 6 = .ok (.iconst 0, 1) := by decide +kernel
theorem dX3_read_7 : decode cX3_read 7 = .ok (.putfield 15, 3) := by decide +kernel
theorem dX3_read_10 : decode cX3_read 10 = .ok (.aload_n 0, 1) := by decide +kernel
theorem dX3_read_11 : decode cX3_read 11 = .ok (.iconst 0, 1) := by decide +kernel
theorem dX3_read_12 : decode cX3_read 12 = .ok (.putfield 33, 3) := by decide +kernel
theorem dX3_read_15 : decode cX3_read 15 = .ok (.aload_n 0, 1) := by decide +kernel
theorem dX3_read_16 : decode cX3_read 16 = .ok (.iconst 0, 1) := by decide +kernel
theorem dX3_read_17 : decode cX3_read 17 = .ok (.putfield 36, 3) := by decide +kernel
theorem dX3_read_20 : decode cX3_read 20 = .ok (.aload_n 0, 1) := by decide +kernel
theorem dX3_read_21 : decode cX3_read 21 = .ok (.iconst 0, 1) := by decide +kernel
theorem dX3_read_22 : decode cX3_read 22 = .ok (.putfield 55, 3) := by decide +kernel
theorem dX3_read_25 : decode cX3_read 25 = .ok (.aload_n 0, 1) := by decide +kernel
theorem dX3_read_26 : decode cX3_read 26 = .ok (.getfield 22, 3) := by decide +kernel
theorem dX3_read_29 : decode cX3_read 29 = .ok (.invokevirtual 79, 3) := by decide +kernel
theorem k_558 : Cond.methodLink RX3 79 yX2_clear ∈ bw_T := bw_m 558 (by decide +kernel) rfl
theorem dX3_read_32 : decode cX3_read 32 = .ok (.aload_n 0, 1) := by decide +kernel
theorem dX3_read_33 : decode cX3_read 33 = .ok (.getfield 29, 3) := by decide +kernel
theorem dX3_read_36 : decode cX3_read 36 = .ok (.iconst 0, 1) := by decide +kernel
theorem dX3_read_37 : decode cX3_read 37 = .ok (.putfield 82, 3) := by decide +kernel
theorem k_202 : Cond.fieldLink RX3 82 "BurntWays$Wants" "count" "I" ∈ bw_T := bw_m 202 (by decide +kernel) rfl
theorem dX3_read_40 : decode cX3_read 40 = .ok (.iconst 0, 1) := by decide +kernel
theorem dX3_read_41 : decode cX3_read 41 = .ok (.istore_n 2, 1) := by decide +kernel
theorem dX3_read_42 : decode cX3_read 42 = .ok (.iload_n 2, 1) := by decide +kernel
theorem dX3_read_43 : decode cX3_read 43 = .ok (.sipush 900, 3) := by decide +kernel
theorem dX3_read_46 : decode cX3_read 46 = .ok (.if_icmp .gt 81, 3) := by decide +kernel
theorem dX3_read_49 : decode cX3_read 49 = .ok (.aload_n 0, 1) := by decide +kernel
theorem dX3_read_50 : decode cX3_read 50 = .ok (.invokevirtual 85, 3) := by decide +kernel
theorem k_559 : Cond.methodLink RX3 85 yX3_advance ∈ bw_T := bw_m 559 (by decide +kernel) rfl
theorem kv_X3_advance : bw_KV RX3 yX3_advance (Cond.code yX3_advance cX3_advance 2 none) := ⟨bw_m 561 (by decide +kernel) rfl, bw_m 2 (by decide +kernel) rfl, bw_m 95 (by decide +kernel) rfl, bw_m 562 (by decide +kernel) rfl⟩
theorem dX3_read_53 : decode cX3_read 53 = .ok (.aload_n 0, 1) := by decide +kernel
theorem dX3_read_54 : decode cX3_read 54 = .ok (.getfield 49, 3) := by decide +kernel
theorem dX3_read_57 : decode cX3_read 57 = .ok (.ifCond .ne 10, 3) := by decide +kernel
theorem dX3_read_67 : decode cX3_read 67 = .ok (.aload_n 0, 1) := by decide +kernel
theorem dX3_read_68 : decode cX3_read 68 = .ok (.getfield 49, 3) := by decide +kernel
theorem dX3_read_71 : decode cX3_read 71 = .ok (.iconst 1, 1) := by decide +kernel
theorem dX3_read_72 : decode cX3_read 72 = .ok (.if_icmp .ne 10, 3) := by decide +kernel
theorem dX3_read_82 : decode cX3_read 82 = .ok (.aload_n 0, 1) := by decide +kernel
theorem dX3_read_83 : decode cX3_read 83 = .ok (.getfield 49, 3) := by decide +kernel
theorem dX3_read_86 : decode cX3_read 86 = .ok (.iconst 2, 1) := by decide +kernel
theorem dX3_read_87 : decode cX3_read 87 = .ok (.if_icmp .ne 10, 3) := by decide +kernel
theorem dX3_read_97 : decode cX3_read 97 = .ok (.aload_n 0, 1) := by decide +kernel
theorem dX3_read_98 : decode cX3_read 98 = .ok (.iconst 1, 1) := by decide +kernel
theorem dX3_read_99 : decode cX3_read 99 = .ok (.invokevirtual 98, 3) := by decide +kernel
theorem k_575 : Cond.methodLink RX3 98 yX3_fail ∈ bw_T := bw_m 575 (by decide +kernel) rfl
theorem kv_X3_fail : bw_KV RX3 yX3_fail (Cond.code yX3_fail cX3_fail 2 (some .boolean)) := ⟨bw_m 577 (by decide +kernel) rfl, bw_m 6 (by decide +kernel) rfl, bw_m 95 (by decide +kernel) rfl, bw_m 578 (by decide +kernel) rfl⟩
theorem dX3_read_102 : decode cX3_read 102 = .ok (.istore_n 3, 1) := by decide +kernel
theorem dX3_read_103 : decode cX3_read 103 = .ok (.iload_n 3, 1) := by decide +kernel
theorem dX3_read_104 : decode cX3_read 104 = .ok (.ifCond .ne 5, 3) := by decide +kernel
theorem dX3_read_107 : decode cX3_read 107 = .ok (.iconst 0, 1) := by decide +kernel
theorem dX3_read_108 : decode cX3_read 108 = .ok (.ireturn, 1) := by decide +kernel
abbrev rm_X3_read : Room := { frames := 2, cells := 0, slots := 0, locals := 43 }
set_option maxRecDepth 100000 in
set_option maxHeartbeats 4000000 in
theorem c_X3_read {l : Launch} {E : (Nat → Prop) → State → Prop} (hO : bw_Ok E) {G : va_G} {cI cB cJ cN cW : ClassId} (b : Nat) (q : Nat → Nat) (f : Nat → Nat → Int32) : bw_Ci (S := bw_U) l yX3_read (bw_ws (Cond.code yX3_read cX3_read 4 (some .boolean))) rm_X3_read E G (bw_kt cI cB cJ cN cW) [.ref b, .int 0] [(b, .inr (3, [.ref (q 20), .int 0, .ref (q 21), .ref (q 22), .int 0, .int 0, .ref (q 23), .ref (q 24), .int 0, .int 24, .int 0, .int 0, .long 0, .int 0])), ((q 21), .inr (2, [.int 0, .ref (q 25), .ref (q 26), .ref (q 27), .ref (q 28), .ref (q 29), .ref (q 30), .ref (q 31), .ref (q 32)])), ((q 25), .inl (cI, 10, .inl (f 0))), ((q 26), .inl (cI, 10, .inl (f 1))), ((q 27), .inl (cI, 10, .inl (f 2))), ((q 31), .inl (cI, 20, .inl (f 3))), ((q 32), .inl (cI, 20, .inl (fun _ => 0))), ((q 22), .inr (7, [.int 0, .ref (q 33)]))] (fun r _ => r = 0) (fun _ => []) := by
  refine bw_Ci.of (cc := cX3_read) (maxL := 4) (ty := .boolean) (by decide) rfl (Nat.le_of_ble_eq_true rfl) ?_
  intro p e s m below meth c A Q hx hb hml hts hown hin hK hA hS hP hD hE ret ls hl
  have F : CallFix p m c cX3_read 4 s ([.ref b, .int 0] : List Value).toArray bw_T RX3 := ⟨hx, hb, hml, hown, fun w h => hts w (List.mem_cons_of_mem _ h)⟩
  have hl : lv_has ls 4 [(0, .ref b), (1, .int 0)] := hl
  refine lv_aload_n hx hb dX3_read_0 rfl (lv_at hl 0 rfl) ?_
  refine lv_iload_n hx hb dX3_read_1 rfl (lv_at hl 1 rfl) ?_
  refine r_put F hK hP hD hS 0 8 rfl rfl in_X3 tyX3 tyX3_ok nmX3 (by decide) k_274 rfl rfl rfl (Nat.le_of_ble_eq_true rfl) dX3_read_2 (w1 := [(b, .inr (3, [.ref (q 20), .int 0, .ref (q 21), .ref (q 22), .int 0, .int 0, .ref (q 23), .ref (q 24), .int 0, .int 24, .int 0, .int 0, .long 0, .int 0])), ((q 21), .inr (2, [.int 0, .ref (q 25), .ref (q 26), .ref (q 27), .ref (q 28), .ref (q 29), .ref (q 30), .ref (q 31), .ref (q 32)])), ((q 25), .inl (cI, 10, .inl (f 0))), ((q 26), .inl (cI, 10, .inl (f 1))), ((q 27), .inl (cI, 10, .inl (f 2))), ((q 31), .inl (cI, 20, .inl (f 3))), ((q 32), .inl (cI, 20, .inl (fun _ => 0))), ((q 22), .inr (7, [.int 0, .ref (q 33)]))]) rfl (fun H locs hP hD hS => ?_)
  refine lv_aload_n hx hb dX3_read_5 rfl (lv_at hl 0 rfl) ?_
  refine lv_iconst (v := 0) hx hb dX3_read_6 (by decide) ?_
  refine r_put F hK hP hD hS 0 1 rfl rfl in_X3 tyX3 tyX3_ok nmX3 (by decide) k_262 rfl rfl rfl (Nat.le_of_ble_eq_true rfl) dX3_read_7 (w1 := [(b, .inr (3, [.ref (q 20), .int 0, .ref (q 21), .ref (q 22), .int 0, .int 0, .ref (q 23), .ref (q 24), .int 0, .int 24, .int 0, .int 0, .long 0, .int 0])), ((q 21), .inr (2, [.int 0, .ref (q 25), .ref (q 26), .ref (q 27), .ref (q 28), .ref (q 29), .ref (q 30), .ref (q 31), .ref (q 32)])), ((q 25), .inl (cI, 10, .inl (f 0))), ((q 26), .inl (cI, 10, .inl (f 1))), ((q 27), .inl (cI, 10, .inl (f 2))), ((q 31), .inl (cI, 20, .inl (f 3))), ((q 32), .inl (cI, 20, .inl (fun _ => 0))), ((q 22), .inr (7, [.int 0, .ref (q 33)]))]) rfl (fun H locs hP hD hS => ?_)
  refine lv_aload_n hx hb dX3_read_10 rfl (lv_at hl 0 rfl) ?_
  refine lv_iconst (v := 0) hx hb dX3_read_11 (by decide) ?_
  refine r_put F hK hP hD hS 0 4 rfl rfl in_X3 tyX3 tyX3_ok nmX3 (by decide) k_268 rfl rfl rfl (Nat.le_of_ble_eq_true rfl) dX3_read_12 (w1 := [(b, .inr (3, [.ref (q 20), .int 0, .ref (q 21), .ref (q 22), .int 0, .int 0, .ref (q 23), .ref (q 24), .int 0, .int 24, .int 0, .int 0, .long 0, .int 0])), ((q 21), .inr (2, [.int 0, .ref (q 25), .ref (q 26), .ref (q 27), .ref (q 28), .ref (q 29), .ref (q 30), .ref (q 31), .ref (q 32)])), ((q 25), .inl (cI, 10, .inl (f 0))), ((q 26), .inl (cI, 10, .inl (f 1))), ((q 27), .inl (cI, 10, .inl (f 2))), ((q 31), .inl (cI, 20, .inl (f 3))), ((q 32), .inl (cI, 20, .inl (fun _ => 0))), ((q 22), .inr (7, [.int 0, .ref (q 33)]))]) rfl (fun H locs hP hD hS => ?_)
  refine lv_aload_n hx hb dX3_read_15 rfl (lv_at hl 0 rfl) ?_
  refine lv_iconst (v := 0) hx hb dX3_read_16 (by decide) ?_
  refine r_put F hK hP hD hS 0 5 rfl rfl in_X3 tyX3 tyX3_ok nmX3 (by decide) k_270 rfl rfl rfl (Nat.le_of_ble_eq_true rfl) dX3_read_17 (w1 := [(b, .inr (3, [.ref (q 20), .int 0, .ref (q 21), .ref (q 22), .int 0, .int 0, .ref (q 23), .ref (q 24), .int 0, .int 24, .int 0, .int 0, .long 0, .int 0])), ((q 21), .inr (2, [.int 0, .ref (q 25), .ref (q 26), .ref (q 27), .ref (q 28), .ref (q 29), .ref (q 30), .ref (q 31), .ref (q 32)])), ((q 25), .inl (cI, 10, .inl (f 0))), ((q 26), .inl (cI, 10, .inl (f 1))), ((q 27), .inl (cI, 10, .inl (f 2))), ((q 31), .inl (cI, 20, .inl (f 3))), ((q 32), .inl (cI, 20, .inl (fun _ => 0))), ((q 22), .inr (7, [.int 0, .ref (q 33)]))]) rfl (fun H locs hP hD hS => ?_)
  refine lv_aload_n hx hb dX3_read_20 rfl (lv_at hl 0 rfl) ?_
  refine lv_iconst (v := 0) hx hb dX3_read_21 (by decide) ?_
  refine r_put F hK hP hD hS 0 11 rfl rfl in_X3 tyX3 tyX3_ok nmX3 (by decide) k_277 rfl rfl rfl (Nat.le_of_ble_eq_true rfl) dX3_read_22 (w1 := [(b, .inr (3, [.ref (q 20), .int 0, .ref (q 21), .ref (q 22), .int 0, .int 0, .ref (q 23), .ref (q 24), .int 0, .int 24, .int 0, .int 0, .long 0, .int 0])), ((q 21), .inr (2, [.int 0, .ref (q 25), .ref (q 26), .ref (q 27), .ref (q 28), .ref (q 29), .ref (q 30), .ref (q 31), .ref (q 32)])), ((q 25), .inl (cI, 10, .inl (f 0))), ((q 26), .inl (cI, 10, .inl (f 1))), ((q 27), .inl (cI, 10, .inl (f 2))), ((q 31), .inl (cI, 20, .inl (f 3))), ((q 32), .inl (cI, 20, .inl (fun _ => 0))), ((q 22), .inr (7, [.int 0, .ref (q 33)]))]) rfl (fun H locs hP hD hS => ?_)
  refine lv_aload_n hx hb dX3_read_25 rfl (lv_at hl 0 rfl) ?_
  refine r_get F hK hP 0 2 rfl rfl in_X3 (by decide) k_264 rfl dX3_read_26 ?_
  refine r_callVv (As := []) (rest := []) (wr := [(b, .inr (3, [.ref (q 20), .int 0, .ref (q 21), .ref (q 22), .int 0, .int 0, .ref (q 23), .ref (q 24), .int 0, .int 24, .int 0, .int 0, .long 0, .int 0])), ((q 22), .inr (7, [.int 0, .ref (q 33)]))]) F hK hP hD hS hA hO hE (c_X2_clear hO (q 21) (fun k => [(q 25), (q 26), (q 27), (q 28), (q 29), (q 30), (q 31), (q 32)].getD k 0) 0 (fun k => [(f 0), (f 1), (f 2), (f 3)].getD k (fun _ => 0))) k_558 kv_X2_clear 0 rfl (by decide +kernel) ⟨Nat.le_of_ble_eq_true rfl, Nat.le_of_ble_eq_true rfl⟩ [1, 2, 3, 4, 5, 6] [0, 7] rfl rfl (by decide) (by decide) (by decide) 0 2 rfl rfl rfl hl.1 rfl (Nat.le_of_ble_eq_true rfl) dX3_read_29 ⟨Nat.le_of_ble_eq_true rfl, Nat.le_of_ble_eq_true rfl⟩ (w1 := fun u1 => [(b, .inr (3, [.ref (q 20), .int 0, .ref (q 21), .ref (q 22), .int 0, .int 0, .ref (q 23), .ref (q 24), .int 0, .int 24, .int 0, .int 0, .long 0, .int 0])), ((q 22), .inr (7, [.int 0, .ref (q 33)])), ((q 21), .inr (2, [.int 0, .ref (q 25), .ref (q 26), .ref (q 27), .ref (q 28), .ref (q 29), .ref (q 30), .ref (q 31), .ref (q 32)])), ((q 25), .inl (cI, 10, .inl (u1.2 0))), ((q 26), .inl (cI, 10, .inl (u1.2 1))), ((q 27), .inl (cI, 10, .inl (u1.2 2))), ((q 31), .inl (cI, 20, .inl (u1.2 3))), ((q 32), .inl (cI, 20, .inl (fun _ => 0)))]) (fun _ => rfl) (fun  u1 H locs hp hP hD hS => ?_)
  refine lv_aload_n hx hb dX3_read_32 rfl (lv_at hl 0 rfl) ?_
  refine r_get F hK hP 0 3 rfl rfl in_X3 (by decide) k_266 rfl dX3_read_33 ?_
  refine lv_iconst (v := 0) hx hb dX3_read_36 (by decide) ?_
  refine r_put F hK hP hD hS 1 0 rfl rfl in_X7 tyX7 tyX7_ok nmX7 (by decide) k_202 rfl rfl rfl (Nat.le_of_ble_eq_true rfl) dX3_read_37 (w1 := [(b, .inr (3, [.ref (q 20), .int 0, .ref (q 21), .ref (q 22), .int 0, .int 0, .ref (q 23), .ref (q 24), .int 0, .int 24, .int 0, .int 0, .long 0, .int 0])), ((q 22), .inr (7, [.int 0, .ref (q 33)])), ((q 21), .inr (2, [.int 0, .ref (q 25), .ref (q 26), .ref (q 27), .ref (q 28), .ref (q 29), .ref (q 30), .ref (q 31), .ref (q 32)])), ((q 25), .inl (cI, 10, .inl (u1.2 0))), ((q 26), .inl (cI, 10, .inl (u1.2 1))), ((q 27), .inl (cI, 10, .inl (u1.2 2))), ((q 31), .inl (cI, 20, .inl (u1.2 3))), ((q 32), .inl (cI, 20, .inl (fun _ => 0)))]) rfl (fun H locs hP hD hS => ?_)
  refine lv_iconst (v := 0) hx hb dX3_read_40 (by decide) ?_
  refine lv_istore_n (lv' := [(2, .int 0), (0, .ref b), (1, .int 0)]) hx hb dX3_read_41 rfl hl (by decide) rfl (fun ls hl => ?_)
  refine lv_iload_n hx hb dX3_read_42 rfl (lv_at hl 0 rfl) ?_
  refine lv_sipush (v := 900) hx hb dX3_read_43 (by decide) ?_
  refine lv_icmp_gt (tgt := 127) hx hb dX3_read_46 (by decide) (fun h9 => absurd h9 (by decide)) (fun _ => ?_)
  refine lv_aload_n hx hb dX3_read_49 rfl (lv_at hl 1 rfl) ?_
  refine r_callVv (As := []) (rest := []) (wr := [((q 22), .inr (7, [.int 0, .ref (q 33)])), ((q 21), .inr (2, [.int 0, .ref (q 25), .ref (q 26), .ref (q 27), .ref (q 28), .ref (q 29), .ref (q 30), .ref (q 31), .ref (q 32)])), ((q 25), .inl (cI, 10, .inl (u1.2 0))), ((q 26), .inl (cI, 10, .inl (u1.2 1))), ((q 27), .inl (cI, 10, .inl (u1.2 2))), ((q 31), .inl (cI, 20, .inl (u1.2 3))), ((q 32), .inl (cI, 20, .inl (fun _ => 0)))]) F hK hP hD hS hA hO hE (c_X3_advance hO b q) k_559 kv_X3_advance 0 rfl (by decide +kernel) ⟨Nat.le_of_ble_eq_true rfl, Nat.le_of_ble_eq_true rfl⟩ [0] [1, 2, 3, 4, 5, 6, 7] rfl rfl (by decide) (by decide) (by decide) 0 3 rfl rfl rfl hl.1 rfl (Nat.le_of_ble_eq_true rfl) dX3_read_50 ⟨Nat.le_of_ble_eq_true rfl, Nat.le_of_ble_eq_true rfl⟩ (w1 := fun u2 => [((q 22), .inr (7, [.int 0, .ref (q 33)])), ((q 21), .inr (2, [.int 0, .ref (q 25), .ref (q 26), .ref (q 27), .ref (q 28), .ref (q 29), .ref (q 30), .ref (q 31), .ref (q 32)])), ((q 25), .inl (cI, 10, .inl (u1.2 0))), ((q 26), .inl (cI, 10, .inl (u1.2 1))), ((q 27), .inl (cI, 10, .inl (u1.2 2))), ((q 31), .inl (cI, 20, .inl (u1.2 3))), ((q 32), .inl (cI, 20, .inl (fun _ => 0))), (b, .inr (3, [.ref (q 20), .int 0, .ref (q 21), .ref (q 22), .int 0, .int 0, .ref (q 23), .ref (q 24), .int 0, .int 24, .int 0, .int 0, .long 0, .int 0]))]) (fun _ => rfl) (fun  u2 H locs hp hP hD hS => ?_)
  refine lv_aload_n hx hb dX3_read_53 rfl (lv_at hl 1 rfl) ?_
  refine r_get F hK hP 7 9 rfl rfl in_X3 (by decide) k_275 rfl dX3_read_54 ?_
  refine lv_if_ne (tgt := 67) hx hb dX3_read_57 (by decide) (fun _ => ?_) (fun h9 => absurd h9 (by decide))
  refine lv_aload_n hx hb dX3_read_67 rfl (lv_at hl 1 rfl) ?_
  refine r_get F hK hP 7 9 rfl rfl in_X3 (by decide) k_275 rfl dX3_read_68 ?_
  refine lv_iconst (v := 1) hx hb dX3_read_71 (by decide) ?_
  refine lv_icmp_ne (tgt := 82) hx hb dX3_read_72 (by decide) (fun _ => ?_) (fun h9 => absurd h9 (by decide))
  refine lv_aload_n hx hb dX3_read_82 rfl (lv_at hl 1 rfl) ?_
  refine r_get F hK hP 7 9 rfl rfl in_X3 (by decide) k_275 rfl dX3_read_83 ?_
  refine lv_iconst (v := 2) hx hb dX3_read_86 (by decide) ?_
  refine lv_icmp_ne (tgt := 97) hx hb dX3_read_87 (by decide) (fun _ => ?_) (fun h9 => absurd h9 (by decide))
  refine lv_aload_n hx hb dX3_read_97 rfl (lv_at hl 1 rfl) ?_
  refine lv_iconst (v := 1) hx hb dX3_read_98 (by decide) ?_
  refine r_callVi (As := [.int 1]) (rest := []) (wr := [((q 22), .inr (7, [.int 0, .ref (q 33)])), ((q 21), .inr (2, [.int 0, .ref (q 25), .ref (q 26), .ref (q 27), .ref (q 28), .ref (q 29), .ref (q 30), .ref (q 31), .ref (q 32)])), ((q 25), .inl (cI, 10, .inl (u1.2 0))), ((q 26), .inl (cI, 10, .inl (u1.2 1))), ((q 27), .inl (cI, 10, .inl (u1.2 2))), ((q 31), .inl (cI, 20, .inl (u1.2 3))), ((q 32), .inl (cI, 20, .inl (fun _ => 0)))]) F hK hP hD hS hA hO hE (c_X3_fail hO b q 1) k_575 kv_X3_fail 1 rfl (by decide +kernel) ⟨Nat.le_of_ble_eq_true rfl, Nat.le_of_ble_eq_true rfl⟩ [7] [0, 1, 2, 3, 4, 5, 6] rfl rfl (by decide) (by decide) (by decide) 0 3 rfl rfl rfl hl.1 rfl (Nat.le_of_ble_eq_true rfl) dX3_read_99 ⟨Nat.le_of_ble_eq_true rfl, Nat.le_of_ble_eq_true rfl⟩ (w1 := fun u3 => [((q 22), .inr (7, [.int 0, .ref (q 33)])), ((q 21), .inr (2, [.int 0, .ref (q 25), .ref (q 26), .ref (q 27), .ref (q 28), .ref (q 29), .ref (q 30), .ref (q 31), .ref (q 32)])), ((q 25), .inl (cI, 10, .inl (u1.2 0))), ((q 26), .inl (cI, 10, .inl (u1.2 1))), ((q 27), .inl (cI, 10, .inl (u1.2 2))), ((q 31), .inl (cI, 20, .inl (u1.2 3))), ((q 32), .inl (cI, 20, .inl (fun _ => 0)))]) (fun _ => rfl) (fun r4 u3 H locs hp hP hD hS => ?_)
  subst hp
  refine lv_istore_n (lv' := [(3, .int 0), (2, .int 0), (0, .ref b), (1, .int 0)]) hx hb dX3_read_102 rfl hl (by decide) rfl (fun ls hl => ?_)
  refine lv_iload_n hx hb dX3_read_103 rfl (lv_at hl 0 rfl) ?_
  refine lv_if_ne (tgt := 109) hx hb dX3_read_104 (by decide) (fun h9 => absurd (by decide) h9) (fun _ => ?_)
  refine lv_iconst (v := 0) hx hb dX3_read_107 (by decide) ?_
  exact ret 0 (fun _ => 0, fun _ _ => 0) _ _ _ _ _ _ rfl rfl (bw_subP (isC := []) hP rfl) (hD.sub [] (by decide) rfl) hS (Nat.le_of_ble_eq_true rfl) (Nat.le_of_ble_eq_true rfl) dX3_read_108
theorem bw_tri (n : Int32) : n < 0 ∨ n = 0 ∨ 0 < n := by
  rcases Int32.lt_or_le n 0 with h | h
  · exact Or.inl h
  · by_cases e : n = 0
    · exact Or.inr (Or.inl e)
    · exact Or.inr (Or.inr (Int32.lt_iff_toInt_lt.mpr (by
        have a := Int32.le_iff_toInt_le.mp h
        have b : ¬ n.toInt = (0 : Int32).toInt := fun q => e (Int32.toInt_inj.mp q)
        omega)))
theorem bw_pos {n : Int32} (h : 0 < n) : ¬ n < 0 := fun q => absurd (Int32.lt_trans h q) (by decide)
theorem dX8_program_0 : decode cX8_program 0 = .ok (.iload_n 1, 1) := by decide +kernel
theorem dX8_program_1 : decode cX8_program 1 = .ok (.ifCond .lt 14, 3) := by decide +kernel
theorem dX8_program_15 : decode cX8_program 15 = .ok (.aload_n 0, 1) := by decide +kernel
theorem dX8_program_16 : decode cX8_program 16 = .ok (.iconst 2, 1) := by decide +kernel
theorem dX8_program_17 : decode cX8_program 17 = .ok (.invokevirtual 92, 3) := by decide +kernel
theorem dX8_program_20 : decode cX8_program 20 = .ok (.ireturn, 1) := by decide +kernel
theorem dX8_program_4 : decode cX8_program 4 = .ok (.iload_n 1, 1) := by decide +kernel
theorem dX8_program_5 : decode cX8_program 5 = .ok (.aload_n 0, 1) := by decide +kernel
theorem dX8_program_6 : decode cX8_program 6 = .ok (.getfield 20, 3) := by decide +kernel
theorem dX8_program_9 : decode cX8_program 9 = .ok (.getfield 85, 3) := by decide +kernel
theorem dX8_program_12 : decode cX8_program 12 = .ok (.if_icmp .le 9, 3) := by decide +kernel
theorem dX8_program_21 : decode cX8_program 21 = .ok (.aload_n 0, 1) := by decide +kernel
theorem dX8_program_22 : decode cX8_program 22 = .ok (.getfield 20, 3) := by decide +kernel
theorem dX8_program_25 : decode cX8_program 25 = .ok (.iload_n 1, 1) := by decide +kernel
theorem dX8_program_26 : decode cX8_program 26 = .ok (.invokevirtual 96, 3) := by decide +kernel
theorem k_554 : Cond.methodLink RX8 96 yX3_read ∈ bw_T := bw_m 554 (by decide +kernel) rfl
theorem kv_X3_read : bw_KV RX3 yX3_read (Cond.code yX3_read cX3_read 4 (some .boolean)) := ⟨bw_m 555 (by decide +kernel) rfl, bw_m 556 (by decide +kernel) rfl, bw_m 95 (by decide +kernel) rfl, bw_m 557 (by decide +kernel) rfl⟩
theorem dX8_program_29 : decode cX8_program 29 = .ok (.ifCond .ne 9, 3) := by decide +kernel
theorem dX8_program_32 : decode cX8_program 32 = .ok (.aload_n 0, 1) := by decide +kernel
theorem dX8_program_33 : decode cX8_program 33 = .ok (.iconst 4, 1) := by decide +kernel
theorem dX8_program_34 : decode cX8_program 34 = .ok (.invokevirtual 92, 3) := by decide +kernel
theorem dX8_program_37 : decode cX8_program 37 = .ok (.ireturn, 1) := by decide +kernel
abbrev rm_X8_program : Room := { frames := 3, cells := 0, slots := 0, locals := 66 }
set_option maxRecDepth 100000 in
set_option maxHeartbeats 4000000 in
theorem c_X8_program {l : Launch} {E : (Nat → Prop) → State → Prop} (hO : bw_Ok E) {G : va_G} {cI cB cJ cN cW : ClassId} (b : Nat) (q : Nat → Nat) (f : Nat → Nat → Int32) (n : Int32) : bw_Ci (S := bw_U) l yX8_program (bw_ws (Cond.code yX8_program cX8_program 2 (some .int))) rm_X8_program E G (bw_kt cI cB cJ cN cW) [.ref b, .int n] [(b, .inr (8, [.int 0, .int 0, .ref (q 0), .ref (q 1), .ref (q 2), .ref (q 3), .ref (q 4), .ref (q 5), .ref (q 6), .ref (q 7), .ref (q 8), .ref (q 9), .ref (q 10), .ref (q 11)])), ((q 0), .inr (3, [.ref (q 20), .int 0, .ref (q 21), .ref (q 22), .int 0, .int 0, .ref (q 23), .ref (q 24), .int 0, .int 24, .int 0, .int 0, .long 0, .int 0])), ((q 21), .inr (2, [.int 0, .ref (q 25), .ref (q 26), .ref (q 27), .ref (q 28), .ref (q 29), .ref (q 30), .ref (q 31), .ref (q 32)])), ((q 25), .inl (cI, 10, .inl (f 0))), ((q 26), .inl (cI, 10, .inl (f 1))), ((q 27), .inl (cI, 10, .inl (f 2))), ((q 31), .inl (cI, 20, .inl (f 3))), ((q 32), .inl (cI, 20, .inl (fun _ => 0))), ((q 22), .inr (7, [.int 0, .ref (q 33)]))] (fun r _ => r = -1) (fun _ => []) := by
  refine bw_Ci.of (cc := cX8_program) (maxL := 2) (ty := .int) (by decide) rfl (Nat.le_of_ble_eq_true rfl) ?_
  intro p e s m below meth c A Q hx hb hml hts hown hin hK hA hS hP hD hE ret ls hl
  have F : CallFix p m c cX8_program 2 s ([.ref b, .int n] : List Value).toArray bw_T RX8 := ⟨hx, hb, hml, hown, fun w h => hts w (List.mem_cons_of_mem _ h)⟩
  have hl : lv_has ls 2 [(0, .ref b), (1, .int n)] := hl
  rcases bw_tri n with h1 | rfl | h1
  · refine lv_iload_n hx hb dX8_program_0 rfl (lv_at hl 1 rfl) ?_
    refine lv_if_lt (tgt := 15) hx hb dX8_program_1 (by decide) (fun _ => ?_) (fun h9 => absurd h1 h9)
    refine lv_aload_n hx hb dX8_program_15 rfl (lv_at hl 0 rfl) ?_
    refine lv_iconst (v := 2) hx hb dX8_program_16 (by decide) ?_
    refine r_callVi (As := [.int 2]) (rest := []) (wr := [((q 0), .inr (3, [.ref (q 20), .int 0, .ref (q 21), .ref (q 22), .int 0, .int 0, .ref (q 23), .ref (q 24), .int 0, .int 24, .int 0, .int 0, .long 0, .int 0])), ((q 21), .inr (2, [.int 0, .ref (q 25), .ref (q 26), .ref (q 27), .ref (q 28), .ref (q 29), .ref (q 30), .ref (q 31), .ref (q 32)])), ((q 25), .inl (cI, 10, .inl (f 0))), ((q 26), .inl (cI, 10, .inl (f 1))), ((q 27), .inl (cI, 10, .inl (f 2))), ((q 31), .inl (cI, 20, .inl (f 3))), ((q 32), .inl (cI, 20, .inl (fun _ => 0))), ((q 22), .inr (7, [.int 0, .ref (q 33)]))]) F hK hP hD hS hA hO hE (c_X8_refuse hO b q 2) k_550 kv_X8_refuse 1 rfl (by decide +kernel) ⟨Nat.le_of_ble_eq_true rfl, Nat.le_of_ble_eq_true rfl⟩ [0] [1, 2, 3, 4, 5, 6, 7, 8] rfl rfl (by decide) (by decide) (by decide) 0 8 rfl rfl rfl hl.1 rfl (Nat.le_of_ble_eq_true rfl) dX8_program_17 ⟨Nat.le_of_ble_eq_true rfl, Nat.le_of_ble_eq_true rfl⟩ (w1 := fun u1 => [((q 0), .inr (3, [.ref (q 20), .int 0, .ref (q 21), .ref (q 22), .int 0, .int 0, .ref (q 23), .ref (q 24), .int 0, .int 24, .int 0, .int 0, .long 0, .int 0])), ((q 21), .inr (2, [.int 0, .ref (q 25), .ref (q 26), .ref (q 27), .ref (q 28), .ref (q 29), .ref (q 30), .ref (q 31), .ref (q 32)])), ((q 25), .inl (cI, 10, .inl (f 0))), ((q 26), .inl (cI, 10, .inl (f 1))), ((q 27), .inl (cI, 10, .inl (f 2))), ((q 31), .inl (cI, 20, .inl (f 3))), ((q 32), .inl (cI, 20, .inl (fun _ => 0))), ((q 22), .inr (7, [.int 0, .ref (q 33)]))]) (fun _ => rfl) (fun r2 u1 H locs hp hP hD hS => ?_)
    subst hp
    exact ret (-1) (fun _ => 0, fun _ _ => 0) _ _ _ _ _ _ rfl rfl (bw_subP (isC := []) hP rfl) (hD.sub [] (by decide) rfl) hS (Nat.le_of_ble_eq_true rfl) (Nat.le_of_ble_eq_true rfl) dX8_program_20
  · refine lv_iload_n hx hb dX8_program_0 rfl (lv_at hl 1 rfl) ?_
    refine lv_if_lt (tgt := 15) hx hb dX8_program_1 (by decide) (fun h9 => absurd h9 (by decide)) (fun _ => ?_)
    refine lv_iload_n hx hb dX8_program_4 rfl (lv_at hl 1 rfl) ?_
    refine lv_aload_n hx hb dX8_program_5 rfl (lv_at hl 0 rfl) ?_
    refine r_get F hK hP 0 2 rfl rfl in_X8 (by decide) k_497 rfl dX8_program_6 ?_
    refine r_get F hK hP 1 1 rfl rfl in_X3 (by decide) k_263 rfl dX8_program_9 ?_
    refine lv_icmp_le (tgt := 21) hx hb dX8_program_12 (by decide) (fun _ => ?_) (fun h9 => absurd (by decide) h9)
    refine lv_aload_n hx hb dX8_program_21 rfl (lv_at hl 0 rfl) ?_
    refine r_get F hK hP 0 2 rfl rfl in_X8 (by decide) k_497 rfl dX8_program_22 ?_
    refine lv_iload_n hx hb dX8_program_25 rfl (lv_at hl 1 rfl) ?_
    refine r_callVi (As := [.int 0]) (rest := []) (wr := [(b, .inr (8, [.int 0, .int 0, .ref (q 0), .ref (q 1), .ref (q 2), .ref (q 3), .ref (q 4), .ref (q 5), .ref (q 6), .ref (q 7), .ref (q 8), .ref (q 9), .ref (q 10), .ref (q 11)]))]) F hK hP hD hS hA hO hE (c_X3_read hO (q 0) q f) k_554 kv_X3_read 1 rfl (by decide +kernel) ⟨Nat.le_of_ble_eq_true rfl, Nat.le_of_ble_eq_true rfl⟩ [1, 2, 3, 4, 5, 6, 7, 8] [0] rfl rfl (by decide) (by decide) (by decide) 0 3 rfl rfl rfl hl.1 rfl (Nat.le_of_ble_eq_true rfl) dX8_program_26 ⟨Nat.le_of_ble_eq_true rfl, Nat.le_of_ble_eq_true rfl⟩ (w1 := fun u1 => [(b, .inr (8, [.int 0, .int 0, .ref (q 0), .ref (q 1), .ref (q 2), .ref (q 3), .ref (q 4), .ref (q 5), .ref (q 6), .ref (q 7), .ref (q 8), .ref (q 9), .ref (q 10), .ref (q 11)]))]) (fun _ => rfl) (fun r2 u1 H locs hp hP hD hS => ?_)
    subst hp
    refine lv_if_ne (tgt := 38) hx hb dX8_program_29 (by decide) (fun h9 => absurd (by decide) h9) (fun _ => ?_)
    refine lv_aload_n hx hb dX8_program_32 rfl (lv_at hl 0 rfl) ?_
    refine lv_iconst (v := 4) hx hb dX8_program_33 (by decide) ?_
    refine r_callVi (As := [.int 4]) (rest := []) (wr := []) F hK hP hD hS hA hO hE (c_X8_refuse hO b q 4) k_550 kv_X8_refuse 1 rfl (by decide +kernel) ⟨Nat.le_of_ble_eq_true rfl, Nat.le_of_ble_eq_true rfl⟩ [0] [] rfl rfl (by decide) (by decide) (by decide) 0 8 rfl rfl rfl hl.1 rfl (Nat.le_of_ble_eq_true rfl) dX8_program_34 ⟨Nat.le_of_ble_eq_true rfl, Nat.le_of_ble_eq_true rfl⟩ (w1 := fun u3 => []) (fun _ => rfl) (fun r4 u3 H locs hp hP hD hS => ?_)
    subst hp
    exact ret (-1) (fun _ => 0, fun _ _ => 0) _ _ _ _ _ _ rfl rfl (bw_subP (isC := []) hP rfl) (hD.sub [] (by decide) rfl) hS (Nat.le_of_ble_eq_true rfl) (Nat.le_of_ble_eq_true rfl) dX8_program_37
  · refine lv_iload_n hx hb dX8_program_0 rfl (lv_at hl 1 rfl) ?_
    refine lv_if_lt (tgt := 15) hx hb dX8_program_1 (by decide) (fun h9 => absurd h9 (bw_pos h1)) (fun _ => ?_)
    refine lv_iload_n hx hb dX8_program_4 rfl (lv_at hl 1 rfl) ?_
    refine lv_aload_n hx hb dX8_program_5 rfl (lv_at hl 0 rfl) ?_
    refine r_get F hK hP 0 2 rfl rfl in_X8 (by decide) k_497 rfl dX8_program_6 ?_
    refine r_get F hK hP 1 1 rfl rfl in_X3 (by decide) k_263 rfl dX8_program_9 ?_
    refine lv_icmp_le (tgt := 21) hx hb dX8_program_12 (by decide) (fun h9 => absurd h9 (Int32.not_le.mpr h1)) (fun _ => ?_)
    refine lv_aload_n hx hb dX8_program_15 rfl (lv_at hl 0 rfl) ?_
    refine lv_iconst (v := 2) hx hb dX8_program_16 (by decide) ?_
    refine r_callVi (As := [.int 2]) (rest := []) (wr := [((q 0), .inr (3, [.ref (q 20), .int 0, .ref (q 21), .ref (q 22), .int 0, .int 0, .ref (q 23), .ref (q 24), .int 0, .int 24, .int 0, .int 0, .long 0, .int 0])), ((q 21), .inr (2, [.int 0, .ref (q 25), .ref (q 26), .ref (q 27), .ref (q 28), .ref (q 29), .ref (q 30), .ref (q 31), .ref (q 32)])), ((q 25), .inl (cI, 10, .inl (f 0))), ((q 26), .inl (cI, 10, .inl (f 1))), ((q 27), .inl (cI, 10, .inl (f 2))), ((q 31), .inl (cI, 20, .inl (f 3))), ((q 32), .inl (cI, 20, .inl (fun _ => 0))), ((q 22), .inr (7, [.int 0, .ref (q 33)]))]) F hK hP hD hS hA hO hE (c_X8_refuse hO b q 2) k_550 kv_X8_refuse 1 rfl (by decide +kernel) ⟨Nat.le_of_ble_eq_true rfl, Nat.le_of_ble_eq_true rfl⟩ [0] [1, 2, 3, 4, 5, 6, 7, 8] rfl rfl (by decide) (by decide) (by decide) 0 8 rfl rfl rfl hl.1 rfl (Nat.le_of_ble_eq_true rfl) dX8_program_17 ⟨Nat.le_of_ble_eq_true rfl, Nat.le_of_ble_eq_true rfl⟩ (w1 := fun u1 => [((q 0), .inr (3, [.ref (q 20), .int 0, .ref (q 21), .ref (q 22), .int 0, .int 0, .ref (q 23), .ref (q 24), .int 0, .int 24, .int 0, .int 0, .long 0, .int 0])), ((q 21), .inr (2, [.int 0, .ref (q 25), .ref (q 26), .ref (q 27), .ref (q 28), .ref (q 29), .ref (q 30), .ref (q 31), .ref (q 32)])), ((q 25), .inl (cI, 10, .inl (f 0))), ((q 26), .inl (cI, 10, .inl (f 1))), ((q 27), .inl (cI, 10, .inl (f 2))), ((q 31), .inl (cI, 20, .inl (f 3))), ((q 32), .inl (cI, 20, .inl (fun _ => 0))), ((q 22), .inr (7, [.int 0, .ref (q 33)]))]) (fun _ => rfl) (fun r2 u1 H locs hp hP hD hS => ?_)
    subst hp
    exact ret (-1) (fun _ => 0, fun _ _ => 0) _ _ _ _ _ _ rfl rfl (bw_subP (isC := []) hP rfl) (hD.sub [] (by decide) rfl) hS (Nat.le_of_ble_eq_true rfl) (Nat.le_of_ble_eq_true rfl) dX8_program_20
theorem dX2_toldLines_0 : decode cX2_toldLines 0 = .ok (.iconst 0, 1) := by decide +kernel
theorem dX2_toldLines_1 : decode cX2_toldLines 1 = .ok (.istore_n 1, 1) := by decide +kernel
theorem dX2_toldLines_2 : decode cX2_toldLines 2 = .ok (.iconst 0, 1) := by decide +kernel
theorem dX2_toldLines_3 : decode cX2_toldLines 3 = .ok (.istore_n 2, 1) := by decide +kernel
theorem dX2_toldLines_4 : decode cX2_toldLines 4 = .ok (.iload_n 2, 1) := by decide +kernel
theorem dX2_toldLines_5 : decode cX2_toldLines 5 = .ok (.aload_n 0, 1) := by decide +kernel
theorem dX2_toldLines_6 : decode cX2_toldLines 6 = .ok (.getfield 9, 3) := by decide +kernel
theorem dX2_toldLines_9 : decode cX2_toldLines 9 = .ok (.if_icmp .ge 25, 3) := by decide +kernel
theorem dX2_toldLines_34 : decode cX2_toldLines 34 = .ok (.iload_n 1, 1) := by decide +kernel
theorem dX2_toldLines_35 : decode cX2_toldLines 35 = .ok (.ireturn, 1) := by decide +kernel
abbrev rm_X2_toldLines : Room := { frames := 0, cells := 0, slots := 0, locals := 0 }
set_option maxRecDepth 100000 in
set_option maxHeartbeats 4000000 in
theorem c_X2_toldLines {l : Launch} {E : (Nat → Prop) → State → Prop} (hO : bw_Ok E) {G : va_G} {cI cB cJ cN cW : ClassId} (b : Nat) (q : Nat → Nat) : bw_Ci (S := bw_U) l yX2_toldLines (bw_ws (Cond.code yX2_toldLines cX2_toldLines 3 (some .int))) rm_X2_toldLines E G (bw_kt cI cB cJ cN cW) [.ref b] [(b, .inr (2, [.int 0, .ref (q 40), .ref (q 41), .ref (q 42), .ref (q 43), .ref (q 44), .ref (q 45), .ref (q 46), .ref (q 47)]))] (fun r _ => r = 0) (fun _ => []) := by
  refine bw_Ci.of (cc := cX2_toldLines) (maxL := 3) (ty := .int) (by decide) rfl (Nat.le_of_ble_eq_true rfl) ?_
  intro p e s m below meth c A Q hx hb hml hts hown hin hK hA hS hP hD hE ret ls hl
  have F : CallFix p m c cX2_toldLines 3 s ([.ref b] : List Value).toArray bw_T RX2 := ⟨hx, hb, hml, hown, fun w h => hts w (List.mem_cons_of_mem _ h)⟩
  have hl : lv_has ls 3 [(0, .ref b)] := hl
  refine lv_iconst (v := 0) hx hb dX2_toldLines_0 (by decide) ?_
  refine lv_istore_n (lv' := [(1, .int 0), (0, .ref b)]) hx hb dX2_toldLines_1 rfl hl (by decide) rfl (fun ls hl => ?_)
  refine lv_iconst (v := 0) hx hb dX2_toldLines_2 (by decide) ?_
  refine lv_istore_n (lv' := [(2, .int 0), (1, .int 0), (0, .ref b)]) hx hb dX2_toldLines_3 rfl hl (by decide) rfl (fun ls hl => ?_)
  refine lv_iload_n hx hb dX2_toldLines_4 rfl (lv_at hl 0 rfl) ?_
  refine lv_aload_n hx hb dX2_toldLines_5 rfl (lv_at hl 2 rfl) ?_
  refine r_get F hK hP 0 0 rfl rfl in_X2 (by decide) k_144 rfl dX2_toldLines_6 ?_
  refine lv_icmp_ge (tgt := 34) hx hb dX2_toldLines_9 (by decide) (fun _ => ?_) (fun h9 => absurd (by decide) h9)
  refine lv_iload_n hx hb dX2_toldLines_34 rfl (lv_at hl 1 rfl) ?_
  exact ret 0 (fun _ => 0, fun _ _ => 0) _ _ _ _ _ _ rfl rfl (bw_subP (isC := []) hP rfl) (hD.sub [] (by decide) rfl) hS (Nat.le_of_ble_eq_true rfl) (Nat.le_of_ble_eq_true rfl) dX2_toldLines_35
-- sizes
abbrev rm_X2_hasWayK : Room := { frames := 0, cells := 0, slots := 0, locals := 0 }
set_option maxRecDepth 100000 in
set_option maxHeartbeats 4000000 in
theorem c_X2_hasWayK {l : Launch} {E : (Nat → Prop) → State → Prop} (hO : bw_Ok E) {G : va_G} {cI cB cJ cN cW : ClassId} (b : Nat) (q : Nat → Nat) (x : Int32) : bw_Ci (S := bw_U) l yX2_hasWay (bw_ws (Cond.code yX2_hasWay cX2_hasWay 2 (some .boolean))) rm_X2_hasWayK E G (bw_kt cI cB cJ cN cW) [.ref b, .int x] [(b, .inr (2, [.int 0, .ref (q 40), .ref (q 41), .ref (q 42), .ref (q 43), .ref (q 44), .ref (q 45), .ref (q 46), .ref (q 47)])), ((q 47), .inl (cI, 20, .inl (fun _ => 0)))] (fun r _ => r = 0) (fun _ => [(b, .inr (2, [.int 0, .ref (q 40), .ref (q 41), .ref (q 42), .ref (q 43), .ref (q 44), .ref (q 45), .ref (q 46), .ref (q 47)])), ((q 47), .inl (cI, 20, .inl (fun _ => 0)))]) := by
  refine bw_Ci.of (cc := cX2_hasWay) (maxL := 2) (ty := .boolean) (by decide) rfl (Nat.le_of_ble_eq_true rfl) ?_
  intro p e s m below meth c A Q hx hb hml hts hown hin hK hA hS hP hD hE ret ls hl
  have F : CallFix p m c cX2_hasWay 2 s ([.ref b, .int x] : List Value).toArray bw_T RX2 := ⟨hx, hb, hml, hown, fun w h => hts w (List.mem_cons_of_mem _ h)⟩
  have hl : lv_has ls 2 [(0, .ref b), (1, .int x)] := hl
  refine lv_iload_n hx hb dX2_hasWay_0 rfl (lv_at hl 1 rfl) ?_
  refine lv_if_lt (tgt := 23) hx hb dX2_hasWay_1 (by decide) (fun h1 => ?_) (fun h1 => ?_)
  · refine lv_iconst (v := 0) hx hb dX2_hasWay_23 (by decide) ?_
    exact ret 0 (fun _ => 0, fun _ _ => 0) _ _ _ _ _ _ rfl rfl (bw_subP (isC := [0, 1]) hP rfl) (hD.sub [0, 1] (by decide) rfl) hS (Nat.le_of_ble_eq_true rfl) (Nat.le_of_ble_eq_true rfl) dX2_hasWay_24
  · refine lv_iload_n hx hb dX2_hasWay_4 rfl (lv_at hl 1 rfl) ?_
    refine lv_bipush (v := 20) hx hb dX2_hasWay_5 (by decide) ?_
    refine lv_icmp_ge (tgt := 23) hx hb dX2_hasWay_7 (by decide) (fun h2 => ?_) (fun h2 => ?_)
    · refine lv_iconst (v := 0) hx hb dX2_hasWay_23 (by decide) ?_
      exact ret 0 (fun _ => 0, fun _ _ => 0) _ _ _ _ _ _ rfl rfl (bw_subP (isC := [0, 1]) hP rfl) (hD.sub [0, 1] (by decide) rfl) hS (Nat.le_of_ble_eq_true rfl) (Nat.le_of_ble_eq_true rfl) dX2_hasWay_24
    · refine lv_aload_n hx hb dX2_hasWay_10 rfl (lv_at hl 0 rfl) ?_
      refine r_get F hK hP 0 8 rfl rfl in_X2 (by decide) k_169 rfl dX2_hasWay_11 ?_
      refine lv_iload_n hx hb dX2_hasWay_14 rfl (lv_at hl 1 rfl) ?_
      refine r_iald (v := 0) F hK hP 1 0 rfl rfl (bw_in20 h1 h2) dX2_hasWay_15 rfl ?_
      refine lv_if_le (tgt := 23) hx hb dX2_hasWay_16 (by decide) (fun _ => ?_) (fun h9 => absurd (by decide) h9)
      refine lv_iconst (v := 0) hx hb dX2_hasWay_23 (by decide) ?_
      exact ret 0 (fun _ => 0, fun _ _ => 0) _ _ _ _ _ _ rfl rfl (bw_subP (isC := [0, 1]) hP rfl) (hD.sub [0, 1] (by decide) rfl) hS (Nat.le_of_ble_eq_true rfl) (Nat.le_of_ble_eq_true rfl) dX2_hasWay_24
theorem dX2_wayBits_0 : decode cX2_wayBits 0 = .ok (.iconst 0, 1) := by decide +kernel
theorem dX2_wayBits_1 : decode cX2_wayBits 1 = .ok (.istore_n 1, 1) := by decide +kernel
theorem dX2_wayBits_2 : decode cX2_wayBits 2 = .ok (.iconst 0, 1) := by decide +kernel
theorem dX2_wayBits_3 : decode cX2_wayBits 3 = .ok (.istore_n 2, 1) := by decide +kernel
theorem dX2_wayBits_4 : decode cX2_wayBits 4 = .ok (.iload_n 2, 1) := by decide +kernel
theorem dX2_wayBits_5 : decode cX2_wayBits 5 = .ok (.bipush 20, 2) := by decide +kernel
theorem dX2_wayBits_7 : decode cX2_wayBits 7 = .ok (.if_icmp .ge 27, 3) := by decide +kernel
theorem dX2_wayBits_10 : decode cX2_wayBits 10 = .ok (.iload_n 1, 1) := by decide +kernel
theorem dX2_wayBits_11 : decode cX2_wayBits 11 = .ok (.aload_n 0, 1) := by decide +kernel
theorem dX2_wayBits_12 : decode cX2_wayBits 12 = .ok (.iload_n 2, 1) := by decide +kernel
theorem dX2_wayBits_13 : decode cX2_wayBits 13 = .ok (.invokevirtual 67, 3) := by decide +kernel
theorem k_801 : Cond.methodLink RX2 67 yX2_hasWay ∈ bw_T := bw_m 801 (by decide +kernel) rfl
theorem dX2_wayBits_16 : decode cX2_wayBits 16 = .ok (.ifCond .eq 9, 3) := by decide +kernel
theorem dX2_wayBits_25 : decode cX2_wayBits 25 = .ok (.iconst 0, 1) := by decide +kernel
theorem dX2_wayBits_26 : decode cX2_wayBits 26 = .ok (.ior, 1) := by decide +kernel
theorem dX2_wayBits_27 : decode cX2_wayBits 27 = .ok (.istore_n 1, 1) := by decide +kernel
theorem dX2_wayBits_28 : decode cX2_wayBits 28 = .ok (.iinc 2 1, 3) := by decide +kernel
theorem dX2_wayBits_31 : decode cX2_wayBits 31 = .ok (.goto (-27), 3) := by decide +kernel
theorem dX2_wayBits_34 : decode cX2_wayBits 34 = .ok (.iload_n 1, 1) := by decide +kernel
theorem dX2_wayBits_35 : decode cX2_wayBits 35 = .ok (.ireturn, 1) := by decide +kernel
abbrev rm_X2_wayBits : Room := { frames := 1, cells := 0, slots := 0, locals := 21 }
set_option maxRecDepth 100000 in
set_option maxHeartbeats 4000000 in
theorem c_X2_wayBits {l : Launch} {E : (Nat → Prop) → State → Prop} (hO : bw_Ok E) {G : va_G} {cI cB cJ cN cW : ClassId} (b : Nat) (q : Nat → Nat) : bw_Ci (S := bw_U) l yX2_wayBits (bw_ws (Cond.code yX2_wayBits cX2_wayBits 3 (some .int))) rm_X2_wayBits E G (bw_kt cI cB cJ cN cW) [.ref b] [(b, .inr (2, [.int 0, .ref (q 40), .ref (q 41), .ref (q 42), .ref (q 43), .ref (q 44), .ref (q 45), .ref (q 46), .ref (q 47)])), ((q 47), .inl (cI, 20, .inl (fun _ => 0)))] (fun r _ => r = 0) (fun _ => []) := by
  refine bw_Ci.of (cc := cX2_wayBits) (maxL := 3) (ty := .int) (by decide) rfl (Nat.le_of_ble_eq_true rfl) ?_
  intro p e s m below meth c A Q hx hb hml hts hown hin hK hA hS hP hD hE ret ls hl
  have F : CallFix p m c cX2_wayBits 3 s ([.ref b] : List Value).toArray bw_T RX2 := ⟨hx, hb, hml, hown, fun w h => hts w (List.mem_cons_of_mem _ h)⟩
  have hl : lv_has ls 3 [(0, .ref b)] := hl
  refine lv_iconst (v := 0) hx hb dX2_wayBits_0 (by decide) ?_
  refine lv_istore_n (lv' := [(1, .int 0), (0, .ref b)]) hx hb dX2_wayBits_1 rfl hl (by decide) rfl (fun ls hl => ?_)
  refine lv_iconst (v := 0) hx hb dX2_wayBits_2 (by decide) ?_
  refine lv_istore_n (lv' := [(2, .int 0), (1, .int 0), (0, .ref b)]) hx hb dX2_wayBits_3 rfl hl (by decide) rfl (fun ls hl => ?_)
  refine lv_iload_n hx hb dX2_wayBits_4 rfl (lv_at hl 0 rfl) ?_
  refine lv_bipush (v := 20) hx hb dX2_wayBits_5 (by decide) ?_
  refine lv_icmp_ge (tgt := 34) hx hb dX2_wayBits_7 (by decide) (fun h9 => absurd h9 (by decide)) (fun _ => ?_)
  refine lv_iload_n hx hb dX2_wayBits_10 rfl (lv_at hl 1 rfl) ?_
  refine lv_aload_n hx hb dX2_wayBits_11 rfl (lv_at hl 2 rfl) ?_
  refine lv_iload_n hx hb dX2_wayBits_12 rfl (lv_at hl 0 rfl) ?_
  refine r_callVi (As := [.int 0]) (rest := [.int 0]) (wr := []) F hK hP hD hS hA hO hE (c_X2_hasWayK hO b q 0) k_801 kv_X2_hasWay 1 rfl (by decide +kernel) ⟨Nat.le_of_ble_eq_true rfl, Nat.le_of_ble_eq_true rfl⟩ [0, 1] [] rfl rfl (by decide) (by decide) (by decide) 0 2 rfl rfl rfl hl.1 rfl (Nat.le_of_ble_eq_true rfl) dX2_wayBits_13 ⟨Nat.le_of_ble_eq_true rfl, Nat.le_of_ble_eq_true rfl⟩ (w1 := fun u1 => [(b, .inr (2, [.int 0, .ref (q 40), .ref (q 41), .ref (q 42), .ref (q 43), .ref (q 44), .ref (q 45), .ref (q 46), .ref (q 47)])), ((q 47), .inl (cI, 20, .inl (fun _ => 0)))]) (fun _ => rfl) (fun r2 u1 H locs hp hP hD hS => ?_)
  subst hp
  refine lv_if_eq (tgt := 25) hx hb dX2_wayBits_16 (by decide) (fun _ => ?_) (fun h9 => absurd (by decide) h9)
  refine lv_iconst (v := 0) hx hb dX2_wayBits_25 (by decide) ?_
  refine r_ior (v := 0) F dX2_wayBits_26 (by decide) ?_
  refine lv_istore_n (lv' := [(1, .int 0), (2, .int 0), (0, .ref b)]) hx hb dX2_wayBits_27 rfl hl (by decide) rfl (fun ls hl => ?_)
  refine lv_iinc (v := 1) (lv' := [(2, .int 1), (1, .int 0), (0, .ref b)]) hx hb dX2_wayBits_28 hl (k := 1) rfl (by decide) (by decide) rfl (fun ls hl => ?_)
  refine lv_goto (tgt := 4) hx hb dX2_wayBits_31 (by decide) ?_
  refine lv_iload_n hx hb dX2_wayBits_4 rfl (lv_at hl 0 rfl) ?_
  refine lv_bipush (v := 20) hx hb dX2_wayBits_5 (by decide) ?_
  refine lv_icmp_ge (tgt := 34) hx hb dX2_wayBits_7 (by decide) (fun h9 => absurd h9 (by decide)) (fun _ => ?_)
  refine lv_iload_n hx hb dX2_wayBits_10 rfl (lv_at hl 1 rfl) ?_
  refine lv_aload_n hx hb dX2_wayBits_11 rfl (lv_at hl 2 rfl) ?_
  refine lv_iload_n hx hb dX2_wayBits_12 rfl (lv_at hl 0 rfl) ?_
  refine r_callVi (As := [.int 1]) (rest := [.int 0]) (wr := []) F hK hP hD hS hA hO hE (c_X2_hasWayK hO b q 1) k_801 kv_X2_hasWay 1 rfl (by decide +kernel) ⟨Nat.le_of_ble_eq_true rfl, Nat.le_of_ble_eq_true rfl⟩ [0, 1] [] rfl rfl (by decide) (by decide) (by decide) 0 2 rfl rfl rfl hl.1 rfl (Nat.le_of_ble_eq_true rfl) dX2_wayBits_13 ⟨Nat.le_of_ble_eq_true rfl, Nat.le_of_ble_eq_true rfl⟩ (w1 := fun u3 => [(b, .inr (2, [.int 0, .ref (q 40), .ref (q 41), .ref (q 42), .ref (q 43), .ref (q 44), .ref (q 45), .ref (q 46), .ref (q 47)])), ((q 47), .inl (cI, 20, .inl (fun _ => 0)))]) (fun _ => rfl) (fun r4 u3 H locs hp hP hD hS => ?_)
  subst hp
  refine lv_if_eq (tgt := 25) hx hb dX2_wayBits_16 (by decide) (fun _ => ?_) (fun h9 => absurd (by decide) h9)
  refine lv_iconst (v := 0) hx hb dX2_wayBits_25 (by decide) ?_
  refine r_ior (v := 0) F dX2_wayBits_26 (by decide) ?_
  refine lv_istore_n (lv' := [(1, .int 0), (2, .int 1), (0, .ref b)]) hx hb dX2_wayBits_27 rfl hl (by decide) rfl (fun ls hl => ?_)
  refine lv_iinc (v := 2) (lv' := [(2, .int 2), (1, .int 0), (0, .ref b)]) hx hb dX2_wayBits_28 hl (k := 1) rfl (by decide) (by decide) rfl (fun ls hl => ?_)
  refine lv_goto (tgt := 4) hx hb dX2_wayBits_31 (by decide) ?_
  refine lv_iload_n hx hb dX2_wayBits_4 rfl (lv_at hl 0 rfl) ?_
  refine lv_bipush (v := 20) hx hb dX2_wayBits_5 (by decide) ?_
  refine lv_icmp_ge (tgt := 34) hx hb dX2_wayBits_7 (by decide) (fun h9 => absurd h9 (by decide)) (fun _ => ?_)
  refine lv_iload_n hx hb dX2_wayBits_10 rfl (lv_at hl 1 rfl) ?_
  refine lv_aload_n hx hb dX2_wayBits_11 rfl (lv_at hl 2 rfl) ?_
  refine lv_iload_n hx hb dX2_wayBits_12 rfl (lv_at hl 0 rfl) ?_
  refine r_callVi (As := [.int 2]) (rest := [.int 0]) (wr := []) F hK hP hD hS hA hO hE (c_X2_hasWayK hO b q 2) k_801 kv_X2_hasWay 1 rfl (by decide +kernel) ⟨Nat.le_of_ble_eq_true rfl, Nat.le_of_ble_eq_true rfl⟩ [0, 1] [] rfl rfl (by decide) (by decide) (by decide) 0 2 rfl rfl rfl hl.1 rfl (Nat.le_of_ble_eq_true rfl) dX2_wayBits_13 ⟨Nat.le_of_ble_eq_true rfl, Nat.le_of_ble_eq_true rfl⟩ (w1 := fun u5 => [(b, .inr (2, [.int 0, .ref (q 40), .ref (q 41), .ref (q 42), .ref (q 43), .ref (q 44), .ref (q 45), .ref (q 46), .ref (q 47)])), ((q 47), .inl (cI, 20, .inl (fun _ => 0)))]) (fun _ => rfl) (fun r6 u5 H locs hp hP hD hS => ?_)
  subst hp
  refine lv_if_eq (tgt := 25) hx hb dX2_wayBits_16 (by decide) (fun _ => ?_) (fun h9 => absurd (by decide) h9)
  refine lv_iconst (v := 0) hx hb dX2_wayBits_25 (by decide) ?_
  refine r_ior (v := 0) F dX2_wayBits_26 (by decide) ?_
  refine lv_istore_n (lv' := [(1, .int 0), (2, .int 2), (0, .ref b)]) hx hb dX2_wayBits_27 rfl hl (by decide) rfl (fun ls hl => ?_)
  refine lv_iinc (v := 3) (lv' := [(2, .int 3), (1, .int 0), (0, .ref b)]) hx hb dX2_wayBits_28 hl (k := 1) rfl (by decide) (by decide) rfl (fun ls hl => ?_)
  refine lv_goto (tgt := 4) hx hb dX2_wayBits_31 (by decide) ?_
  refine lv_iload_n hx hb dX2_wayBits_4 rfl (lv_at hl 0 rfl) ?_
  refine lv_bipush (v := 20) hx hb dX2_wayBits_5 (by decide) ?_
  refine lv_icmp_ge (tgt := 34) hx hb dX2_wayBits_7 (by decide) (fun h9 => absurd h9 (by decide)) (fun _ => ?_)
  refine lv_iload_n hx hb dX2_wayBits_10 rfl (lv_at hl 1 rfl) ?_
  refine lv_aload_n hx hb dX2_wayBits_11 rfl (lv_at hl 2 rfl) ?_
  refine lv_iload_n hx hb dX2_wayBits_12 rfl (lv_at hl 0 rfl) ?_
  refine r_callVi (As := [.int 3]) (rest := [.int 0]) (wr := []) F hK hP hD hS hA hO hE (c_X2_hasWayK hO b q 3) k_801 kv_X2_hasWay 1 rfl (by decide +kernel) ⟨Nat.le_of_ble_eq_true rfl, Nat.le_of_ble_eq_true rfl⟩ [0, 1] [] rfl rfl (by decide) (by decide) (by decide) 0 2 rfl rfl rfl hl.1 rfl (Nat.le_of_ble_eq_true rfl) dX2_wayBits_13 ⟨Nat.le_of_ble_eq_true rfl, Nat.le_of_ble_eq_true rfl⟩ (w1 := fun u7 => [(b, .inr (2, [.int 0, .ref (q 40), .ref (q 41), .ref (q 42), .ref (q 43), .ref (q 44), .ref (q 45), .ref (q 46), .ref (q 47)])), ((q 47), .inl (cI, 20, .inl (fun _ => 0)))]) (fun _ => rfl) (fun r8 u7 H locs hp hP hD hS => ?_)
  subst hp
  refine lv_if_eq (tgt := 25) hx hb dX2_wayBits_16 (by decide) (fun _ => ?_) (fun h9 => absurd (by decide) h9)
  refine lv_iconst (v := 0) hx hb dX2_wayBits_25 (by decide) ?_
  refine r_ior (v := 0) F dX2_wayBits_26 (by decide) ?_
  refine lv_istore_n (lv' := [(1, .int 0), (2, .int 3), (0, .ref b)]) hx hb dX2_wayBits_27 rfl hl (by decide) rfl (fun ls hl => ?_)
  refine lv_iinc (v := 4) (lv' := [(2, .int 4), (1, .int 0), (0, .ref b)]) hx hb dX2_wayBits_28 hl (k := 1) rfl (by decide) (by decide) rfl (fun ls hl => ?_)
  refine lv_goto (tgt := 4) hx hb dX2_wayBits_31 (by decide) ?_
  refine lv_iload_n hx hb dX2_wayBits_4 rfl (lv_at hl 0 rfl) ?_
  refine lv_bipush (v := 20) hx hb dX2_wayBits_5 (by decide) ?_
  refine lv_icmp_ge (tgt := 34) hx hb dX2_wayBits_7 (by decide) (fun h9 => absurd h9 (by decide)) (fun _ => ?_)
  refine lv_iload_n hx hb dX2_wayBits_10 rfl (lv_at hl 1 rfl) ?_
  refine lv_aload_n hx hb dX2_wayBits_11 rfl (lv_at hl 2 rfl) ?_
  refine lv_iload_n hx hb dX2_wayBits_12 rfl (lv_at hl 0 rfl) ?_
  refine r_callVi (As := [.int 4]) (rest := [.int 0]) (wr := []) F hK hP hD hS hA hO hE (c_X2_hasWayK hO b q 4) k_801 kv_X2_hasWay 1 rfl (by decide +kernel) ⟨Nat.le_of_ble_eq_true rfl, Nat.le_of_ble_eq_true rfl⟩ [0, 1] [] rfl rfl (by decide) (by decide) (by decide) 0 2 rfl rfl rfl hl.1 rfl (Nat.le_of_ble_eq_true rfl) dX2_wayBits_13 ⟨Nat.le_of_ble_eq_true rfl, Nat.le_of_ble_eq_true rfl⟩ (w1 := fun u9 => [(b, .inr (2, [.int 0, .ref (q 40), .ref (q 41), .ref (q 42), .ref (q 43), .ref (q 44), .ref (q 45), .ref (q 46), .ref (q 47)])), ((q 47), .inl (cI, 20, .inl (fun _ => 0)))]) (fun _ => rfl) (fun r10 u9 H locs hp hP hD hS => ?_)
  subst hp
  refine lv_if_eq (tgt := 25) hx hb dX2_wayBits_16 (by decide) (fun _ => ?_) (fun h9 => absurd (by decide) h9)
  refine lv_iconst (v := 0) hx hb dX2_wayBits_25 (by decide) ?_
  refine r_ior (v := 0) F dX2_wayBits_26 (by decide) ?_
  refine lv_istore_n (lv' := [(1, .int 0), (2, .int 4), (0, .ref b)]) hx hb dX2_wayBits_27 rfl hl (by decide) rfl (fun ls hl => ?_)
  refine lv_iinc (v := 5) (lv' := [(2, .int 5), (1, .int 0), (0, .ref b)]) hx hb dX2_wayBits_28 hl (k := 1) rfl (by decide) (by decide) rfl (fun ls hl => ?_)
  refine lv_goto (tgt := 4) hx hb dX2_wayBits_31 (by decide) ?_
  refine lv_iload_n hx hb dX2_wayBits_4 rfl (lv_at hl 0 rfl) ?_
  refine lv_bipush (v := 20) hx hb dX2_wayBits_5 (by decide) ?_
  refine lv_icmp_ge (tgt := 34) hx hb dX2_wayBits_7 (by decide) (fun h9 => absurd h9 (by decide)) (fun _ => ?_)
  refine lv_iload_n hx hb dX2_wayBits_10 rfl (lv_at hl 1 rfl) ?_
  refine lv_aload_n hx hb dX2_wayBits_11 rfl (lv_at hl 2 rfl) ?_
  refine lv_iload_n hx hb dX2_wayBits_12 rfl (lv_at hl 0 rfl) ?_
  refine r_callVi (As := [.int 5]) (rest := [.int 0]) (wr := []) F hK hP hD hS hA hO hE (c_X2_hasWayK hO b q 5) k_801 kv_X2_hasWay 1 rfl (by decide +kernel) ⟨Nat.le_of_ble_eq_true rfl, Nat.le_of_ble_eq_true rfl⟩ [0, 1] [] rfl rfl (by decide) (by decide) (by decide) 0 2 rfl rfl rfl hl.1 rfl (Nat.le_of_ble_eq_true rfl) dX2_wayBits_13 ⟨Nat.le_of_ble_eq_true rfl, Nat.le_of_ble_eq_true rfl⟩ (w1 := fun u11 => [(b, .inr (2, [.int 0, .ref (q 40), .ref (q 41), .ref (q 42), .ref (q 43), .ref (q 44), .ref (q 45), .ref (q 46), .ref (q 47)])), ((q 47), .inl (cI, 20, .inl (fun _ => 0)))]) (fun _ => rfl) (fun r12 u11 H locs hp hP hD hS => ?_)
  subst hp
  refine lv_if_eq (tgt := 25) hx hb dX2_wayBits_16 (by decide) (fun _ => ?_) (fun h9 => absurd (by decide) h9)
  refine lv_iconst (v := 0) hx hb dX2_wayBits_25 (by decide) ?_
  refine r_ior (v := 0) F dX2_wayBits_26 (by decide) ?_
  refine lv_istore_n (lv' := [(1, .int 0), (2, .int 5), (0, .ref b)]) hx hb dX2_wayBits_27 rfl hl (by decide) rfl (fun ls hl => ?_)
  refine lv_iinc (v := 6) (lv' := [(2, .int 6), (1, .int 0), (0, .ref b)]) hx hb dX2_wayBits_28 hl (k := 1) rfl (by decide) (by decide) rfl (fun ls hl => ?_)
  refine lv_goto (tgt := 4) hx hb dX2_wayBits_31 (by decide) ?_
  refine lv_iload_n hx hb dX2_wayBits_4 rfl (lv_at hl 0 rfl) ?_
  refine lv_bipush (v := 20) hx hb dX2_wayBits_5 (by decide) ?_
  refine lv_icmp_ge (tgt := 34) hx hb dX2_wayBits_7 (by decide) (fun h9 => absurd h9 (by decide)) (fun _ => ?_)
  refine lv_iload_n hx hb dX2_wayBits_10 rfl (lv_at hl 1 rfl) ?_
  refine lv_aload_n hx hb dX2_wayBits_11 rfl (lv_at hl 2 rfl) ?_
  refine lv_iload_n hx hb dX2_wayBits_12 rfl (lv_at hl 0 rfl) ?_
  refine r_callVi (As := [.int 6]) (rest := [.int 0]) (wr := []) F hK hP hD hS hA hO hE (c_X2_hasWayK hO b q 6) k_801 kv_X2_hasWay 1 rfl (by decide +kernel) ⟨Nat.le_of_ble_eq_true rfl, Nat.le_of_ble_eq_true rfl⟩ [0, 1] [] rfl rfl (by decide) (by decide) (by decide) 0 2 rfl rfl rfl hl.1 rfl (Nat.le_of_ble_eq_true rfl) dX2_wayBits_13 ⟨Nat.le_of_ble_eq_true rfl, Nat.le_of_ble_eq_true rfl⟩ (w1 := fun u13 => [(b, .inr (2, [.int 0, .ref (q 40), .ref (q 41), .ref (q 42), .ref (q 43), .ref (q 44), .ref (q 45), .ref (q 46), .ref (q 47)])), ((q 47), .inl (cI, 20, .inl (fun _ => 0)))]) (fun _ => rfl) (fun r14 u13 H locs hp hP hD hS => ?_)
  subst hp
  refine lv_if_eq (tgt := 25) hx hb dX2_wayBits_16 (by decide) (fun _ => ?_) (fun h9 => absurd (by decide) h9)
  refine lv_iconst (v := 0) hx hb dX2_wayBits_25 (by decide) ?_
  refine r_ior (v := 0) F dX2_wayBits_26 (by decide) ?_
  refine lv_istore_n (lv' := [(1, .int 0), (2, .int 6), (0, .ref b)]) hx hb dX2_wayBits_27 rfl hl (by decide) rfl (fun ls hl => ?_)
  refine lv_iinc (v := 7) (lv' := [(2, .int 7), (1, .int 0), (0, .ref b)]) hx hb dX2_wayBits_28 hl (k := 1) rfl (by decide) (by decide) rfl (fun ls hl => ?_)
  refine lv_goto (tgt := 4) hx hb dX2_wayBits_31 (by decide) ?_
  refine lv_iload_n hx hb dX2_wayBits_4 rfl (lv_at hl 0 rfl) ?_
  refine lv_bipush (v := 20) hx hb dX2_wayBits_5 (by decide) ?_
  refine lv_icmp_ge (tgt := 34) hx hb dX2_wayBits_7 (by decide) (fun h9 => absurd h9 (by decide)) (fun _ => ?_)
  refine lv_iload_n hx hb dX2_wayBits_10 rfl (lv_at hl 1 rfl) ?_
  refine lv_aload_n hx hb dX2_wayBits_11 rfl (lv_at hl 2 rfl) ?_
  refine lv_iload_n hx hb dX2_wayBits_12 rfl (lv_at hl 0 rfl) ?_
  refine r_callVi (As := [.int 7]) (rest := [.int 0]) (wr := []) F hK hP hD hS hA hO hE (c_X2_hasWayK hO b q 7) k_801 kv_X2_hasWay 1 rfl (by decide +kernel) ⟨Nat.le_of_ble_eq_true rfl, Nat.le_of_ble_eq_true rfl⟩ [0, 1] [] rfl rfl (by decide) (by decide) (by decide) 0 2 rfl rfl rfl hl.1 rfl (Nat.le_of_ble_eq_true rfl) dX2_wayBits_13 ⟨Nat.le_of_ble_eq_true rfl, Nat.le_of_ble_eq_true rfl⟩ (w1 := fun u15 => [(b, .inr (2, [.int 0, .ref (q 40), .ref (q 41), .ref (q 42), .ref (q 43), .ref (q 44), .ref (q 45), .ref (q 46), .ref (q 47)])), ((q 47), .inl (cI, 20, .inl (fun _ => 0)))]) (fun _ => rfl) (fun r16 u15 H locs hp hP hD hS => ?_)
  subst hp
  refine lv_if_eq (tgt := 25) hx hb dX2_wayBits_16 (by decide) (fun _ => ?_) (fun h9 => absurd (by decide) h9)
  refine lv_iconst (v := 0) hx hb dX2_wayBits_25 (by decide) ?_
  refine r_ior (v := 0) F dX2_wayBits_26 (by decide) ?_
  refine lv_istore_n (lv' := [(1, .int 0), (2, .int 7), (0, .ref b)]) hx hb dX2_wayBits_27 rfl hl (by decide) rfl (fun ls hl => ?_)
  refine lv_iinc (v := 8) (lv' := [(2, .int 8), (1, .int 0), (0, .ref b)]) hx hb dX2_wayBits_28 hl (k := 1) rfl (by decide) (by decide) rfl (fun ls hl => ?_)
  refine lv_goto (tgt := 4) hx hb dX2_wayBits_31 (by decide) ?_
  refine lv_iload_n hx hb dX2_wayBits_4 rfl (lv_at hl 0 rfl) ?_
  refine lv_bipush (v := 20) hx hb dX2_wayBits_5 (by decide) ?_
  refine lv_icmp_ge (tgt := 34) hx hb dX2_wayBits_7 (by decide) (fun h9 => absurd h9 (by decide)) (fun _ => ?_)
  refine lv_iload_n hx hb dX2_wayBits_10 rfl (lv_at hl 1 rfl) ?_
  refine lv_aload_n hx hb dX2_wayBits_11 rfl (lv_at hl 2 rfl) ?_
  refine lv_iload_n hx hb dX2_wayBits_12 rfl (lv_at hl 0 rfl) ?_
  refine r_callVi (As := [.int 8]) (rest := [.int 0]) (wr := []) F hK hP hD hS hA hO hE (c_X2_hasWayK hO b q 8) k_801 kv_X2_hasWay 1 rfl (by decide +kernel) ⟨Nat.le_of_ble_eq_true rfl, Nat.le_of_ble_eq_true rfl⟩ [0, 1] [] rfl rfl (by decide) (by decide) (by decide) 0 2 rfl rfl rfl hl.1 rfl (Nat.le_of_ble_eq_true rfl) dX2_wayBits_13 ⟨Nat.le_of_ble_eq_true rfl, Nat.le_of_ble_eq_true rfl⟩ (w1 := fun u17 => [(b, .inr (2, [.int 0, .ref (q 40), .ref (q 41), .ref (q 42), .ref (q 43), .ref (q 44), .ref (q 45), .ref (q 46), .ref (q 47)])), ((q 47), .inl (cI, 20, .inl (fun _ => 0)))]) (fun _ => rfl) (fun r18 u17 H locs hp hP hD hS => ?_)
  subst hp
  refine lv_if_eq (tgt := 25) hx hb dX2_wayBits_16 (by decide) (fun _ => ?_) (fun h9 => absurd (by decide) h9)
  refine lv_iconst (v := 0) hx hb dX2_wayBits_25 (by decide) ?_
  refine r_ior (v := 0) F dX2_wayBits_26 (by decide) ?_
  refine lv_istore_n (lv' := [(1, .int 0), (2, .int 8), (0, .ref b)]) hx hb dX2_wayBits_27 rfl hl (by decide) rfl (fun ls hl => ?_)
  refine lv_iinc (v := 9) (lv' := [(2, .int 9), (1, .int 0), (0, .ref b)]) hx hb dX2_wayBits_28 hl (k := 1) rfl (by decide) (by decide) rfl (fun ls hl => ?_)
  refine lv_goto (tgt := 4) hx hb dX2_wayBits_31 (by decide) ?_
  refine lv_iload_n hx hb dX2_wayBits_4 rfl (lv_at hl 0 rfl) ?_
  refine lv_bipush (v := 20) hx hb dX2_wayBits_5 (by decide) ?_
  refine lv_icmp_ge (tgt := 34) hx hb dX2_wayBits_7 (by decide) (fun h9 => absurd h9 (by decide)) (fun _ => ?_)
  refine lv_iload_n hx hb dX2_wayBits_10 rfl (lv_at hl 1 rfl) ?_
  refine lv_aload_n hx hb dX2_wayBits_11 rfl (lv_at hl 2 rfl) ?_
  refine lv_iload_n hx hb dX2_wayBits_12 rfl (lv_at hl 0 rfl) ?_
  refine r_callVi (As := [.int 9]) (rest := [.int 0]) (wr := []) F hK hP hD hS hA hO hE (c_X2_hasWayK hO b q 9) k_801 kv_X2_hasWay 1 rfl (by decide +kernel) ⟨Nat.le_of_ble_eq_true rfl, Nat.le_of_ble_eq_true rfl⟩ [0, 1] [] rfl rfl (by decide) (by decide) (by decide) 0 2 rfl rfl rfl hl.1 rfl (Nat.le_of_ble_eq_true rfl) dX2_wayBits_13 ⟨Nat.le_of_ble_eq_true rfl, Nat.le_of_ble_eq_true rfl⟩ (w1 := fun u19 => [(b, .inr (2, [.int 0, .ref (q 40), .ref (q 41), .ref (q 42), .ref (q 43), .ref (q 44), .ref (q 45), .ref (q 46), .ref (q 47)])), ((q 47), .inl (cI, 20, .inl (fun _ => 0)))]) (fun _ => rfl) (fun r20 u19 H locs hp hP hD hS => ?_)
  subst hp
  refine lv_if_eq (tgt := 25) hx hb dX2_wayBits_16 (by decide) (fun _ => ?_) (fun h9 => absurd (by decide) h9)
  refine lv_iconst (v := 0) hx hb dX2_wayBits_25 (by decide) ?_
  refine r_ior (v := 0) F dX2_wayBits_26 (by decide) ?_
  refine lv_istore_n (lv' := [(1, .int 0), (2, .int 9), (0, .ref b)]) hx hb dX2_wayBits_27 rfl hl (by decide) rfl (fun ls hl => ?_)
  refine lv_iinc (v := 10) (lv' := [(2, .int 10), (1, .int 0), (0, .ref b)]) hx hb dX2_wayBits_28 hl (k := 1) rfl (by decide) (by decide) rfl (fun ls hl => ?_)
  refine lv_goto (tgt := 4) hx hb dX2_wayBits_31 (by decide) ?_
  refine lv_iload_n hx hb dX2_wayBits_4 rfl (lv_at hl 0 rfl) ?_
  refine lv_bipush (v := 20) hx hb dX2_wayBits_5 (by decide) ?_
  refine lv_icmp_ge (tgt := 34) hx hb dX2_wayBits_7 (by decide) (fun h9 => absurd h9 (by decide)) (fun _ => ?_)
  refine lv_iload_n hx hb dX2_wayBits_10 rfl (lv_at hl 1 rfl) ?_
  refine lv_aload_n hx hb dX2_wayBits_11 rfl (lv_at hl 2 rfl) ?_
  refine lv_iload_n hx hb dX2_wayBits_12 rfl (lv_at hl 0 rfl) ?_
  refine r_callVi (As := [.int 10]) (rest := [.int 0]) (wr := []) F hK hP hD hS hA hO hE (c_X2_hasWayK hO b q 10) k_801 kv_X2_hasWay 1 rfl (by decide +kernel) ⟨Nat.le_of_ble_eq_true rfl, Nat.le_of_ble_eq_true rfl⟩ [0, 1] [] rfl rfl (by decide) (by decide) (by decide) 0 2 rfl rfl rfl hl.1 rfl (Nat.le_of_ble_eq_true rfl) dX2_wayBits_13 ⟨Nat.le_of_ble_eq_true rfl, Nat.le_of_ble_eq_true rfl⟩ (w1 := fun u21 => [(b, .inr (2, [.int 0, .ref (q 40), .ref (q 41), .ref (q 42), .ref (q 43), .ref (q 44), .ref (q 45), .ref (q 46), .ref (q 47)])), ((q 47), .inl (cI, 20, .inl (fun _ => 0)))]) (fun _ => rfl) (fun r22 u21 H locs hp hP hD hS => ?_)
  subst hp
  refine lv_if_eq (tgt := 25) hx hb dX2_wayBits_16 (by decide) (fun _ => ?_) (fun h9 => absurd (by decide) h9)
  refine lv_iconst (v := 0) hx hb dX2_wayBits_25 (by decide) ?_
  refine r_ior (v := 0) F dX2_wayBits_26 (by decide) ?_
  refine lv_istore_n (lv' := [(1, .int 0), (2, .int 10), (0, .ref b)]) hx hb dX2_wayBits_27 rfl hl (by decide) rfl (fun ls hl => ?_)
  refine lv_iinc (v := 11) (lv' := [(2, .int 11), (1, .int 0), (0, .ref b)]) hx hb dX2_wayBits_28 hl (k := 1) rfl (by decide) (by decide) rfl (fun ls hl => ?_)
  refine lv_goto (tgt := 4) hx hb dX2_wayBits_31 (by decide) ?_
  refine lv_iload_n hx hb dX2_wayBits_4 rfl (lv_at hl 0 rfl) ?_
  refine lv_bipush (v := 20) hx hb dX2_wayBits_5 (by decide) ?_
  refine lv_icmp_ge (tgt := 34) hx hb dX2_wayBits_7 (by decide) (fun h9 => absurd h9 (by decide)) (fun _ => ?_)
  refine lv_iload_n hx hb dX2_wayBits_10 rfl (lv_at hl 1 rfl) ?_
  refine lv_aload_n hx hb dX2_wayBits_11 rfl (lv_at hl 2 rfl) ?_
  refine lv_iload_n hx hb dX2_wayBits_12 rfl (lv_at hl 0 rfl) ?_
  refine r_callVi (As := [.int 11]) (rest := [.int 0]) (wr := []) F hK hP hD hS hA hO hE (c_X2_hasWayK hO b q 11) k_801 kv_X2_hasWay 1 rfl (by decide +kernel) ⟨Nat.le_of_ble_eq_true rfl, Nat.le_of_ble_eq_true rfl⟩ [0, 1] [] rfl rfl (by decide) (by decide) (by decide) 0 2 rfl rfl rfl hl.1 rfl (Nat.le_of_ble_eq_true rfl) dX2_wayBits_13 ⟨Nat.le_of_ble_eq_true rfl, Nat.le_of_ble_eq_true rfl⟩ (w1 := fun u23 => [(b, .inr (2, [.int 0, .ref (q 40), .ref (q 41), .ref (q 42), .ref (q 43), .ref (q 44), .ref (q 45), .ref (q 46), .ref (q 47)])), ((q 47), .inl (cI, 20, .inl (fun _ => 0)))]) (fun _ => rfl) (fun r24 u23 H locs hp hP hD hS => ?_)
  subst hp
  refine lv_if_eq (tgt := 25) hx hb dX2_wayBits_16 (by decide) (fun _ => ?_) (fun h9 => absurd (by decide) h9)
  refine lv_iconst (v := 0) hx hb dX2_wayBits_25 (by decide) ?_
  refine r_ior (v := 0) F dX2_wayBits_26 (by decide) ?_
  refine lv_istore_n (lv' := [(1, .int 0), (2, .int 11), (0, .ref b)]) hx hb dX2_wayBits_27 rfl hl (by decide) rfl (fun ls hl => ?_)
  refine lv_iinc (v := 12) (lv' := [(2, .int 12), (1, .int 0), (0, .ref b)]) hx hb dX2_wayBits_28 hl (k := 1) rfl (by decide) (by decide) rfl (fun ls hl => ?_)
  refine lv_goto (tgt := 4) hx hb dX2_wayBits_31 (by decide) ?_
  refine lv_iload_n hx hb dX2_wayBits_4 rfl (lv_at hl 0 rfl) ?_
  refine lv_bipush (v := 20) hx hb dX2_wayBits_5 (by decide) ?_
  refine lv_icmp_ge (tgt := 34) hx hb dX2_wayBits_7 (by decide) (fun h9 => absurd h9 (by decide)) (fun _ => ?_)
  refine lv_iload_n hx hb dX2_wayBits_10 rfl (lv_at hl 1 rfl) ?_
  refine lv_aload_n hx hb dX2_wayBits_11 rfl (lv_at hl 2 rfl) ?_
  refine lv_iload_n hx hb dX2_wayBits_12 rfl (lv_at hl 0 rfl) ?_
  refine r_callVi (As := [.int 12]) (rest := [.int 0]) (wr := []) F hK hP hD hS hA hO hE (c_X2_hasWayK hO b q 12) k_801 kv_X2_hasWay 1 rfl (by decide +kernel) ⟨Nat.le_of_ble_eq_true rfl, Nat.le_of_ble_eq_true rfl⟩ [0, 1] [] rfl rfl (by decide) (by decide) (by decide) 0 2 rfl rfl rfl hl.1 rfl (Nat.le_of_ble_eq_true rfl) dX2_wayBits_13 ⟨Nat.le_of_ble_eq_true rfl, Nat.le_of_ble_eq_true rfl⟩ (w1 := fun u25 => [(b, .inr (2, [.int 0, .ref (q 40), .ref (q 41), .ref (q 42), .ref (q 43), .ref (q 44), .ref (q 45), .ref (q 46), .ref (q 47)])), ((q 47), .inl (cI, 20, .inl (fun _ => 0)))]) (fun _ => rfl) (fun r26 u25 H locs hp hP hD hS => ?_)
  subst hp
  refine lv_if_eq (tgt := 25) hx hb dX2_wayBits_16 (by decide) (fun _ => ?_) (fun h9 => absurd (by decide) h9)
  refine lv_iconst (v := 0) hx hb dX2_wayBits_25 (by decide) ?_
  refine r_ior (v := 0) F dX2_wayBits_26 (by decide) ?_
  refine lv_istore_n (lv' := [(1, .int 0), (2, .int 12), (0, .ref b)]) hx hb dX2_wayBits_27 rfl hl (by decide) rfl (fun ls hl => ?_)
  refine lv_iinc (v := 13) (lv' := [(2, .int 13), (1, .int 0), (0, .ref b)]) hx hb dX2_wayBits_28 hl (k := 1) rfl (by decide) (by decide) rfl (fun ls hl => ?_)
  refine lv_goto (tgt := 4) hx hb dX2_wayBits_31 (by decide) ?_
  refine lv_iload_n hx hb dX2_wayBits_4 rfl (lv_at hl 0 rfl) ?_
  refine lv_bipush (v := 20) hx hb dX2_wayBits_5 (by decide) ?_
  refine lv_icmp_ge (tgt := 34) hx hb dX2_wayBits_7 (by decide) (fun h9 => absurd h9 (by decide)) (fun _ => ?_)
  refine lv_iload_n hx hb dX2_wayBits_10 rfl (lv_at hl 1 rfl) ?_
  refine lv_aload_n hx hb dX2_wayBits_11 rfl (lv_at hl 2 rfl) ?_
  refine lv_iload_n hx hb dX2_wayBits_12 rfl (lv_at hl 0 rfl) ?_
  refine r_callVi (As := [.int 13]) (rest := [.int 0]) (wr := []) F hK hP hD hS hA hO hE (c_X2_hasWayK hO b q 13) k_801 kv_X2_hasWay 1 rfl (by decide +kernel) ⟨Nat.le_of_ble_eq_true rfl, Nat.le_of_ble_eq_true rfl⟩ [0, 1] [] rfl rfl (by decide) (by decide) (by decide) 0 2 rfl rfl rfl hl.1 rfl (Nat.le_of_ble_eq_true rfl) dX2_wayBits_13 ⟨Nat.le_of_ble_eq_true rfl, Nat.le_of_ble_eq_true rfl⟩ (w1 := fun u27 => [(b, .inr (2, [.int 0, .ref (q 40), .ref (q 41), .ref (q 42), .ref (q 43), .ref (q 44), .ref (q 45), .ref (q 46), .ref (q 47)])), ((q 47), .inl (cI, 20, .inl (fun _ => 0)))]) (fun _ => rfl) (fun r28 u27 H locs hp hP hD hS => ?_)
  subst hp
  refine lv_if_eq (tgt := 25) hx hb dX2_wayBits_16 (by decide) (fun _ => ?_) (fun h9 => absurd (by decide) h9)
  refine lv_iconst (v := 0) hx hb dX2_wayBits_25 (by decide) ?_
  refine r_ior (v := 0) F dX2_wayBits_26 (by decide) ?_
  refine lv_istore_n (lv' := [(1, .int 0), (2, .int 13), (0, .ref b)]) hx hb dX2_wayBits_27 rfl hl (by decide) rfl (fun ls hl => ?_)
  refine lv_iinc (v := 14) (lv' := [(2, .int 14), (1, .int 0), (0, .ref b)]) hx hb dX2_wayBits_28 hl (k := 1) rfl (by decide) (by decide) rfl (fun ls hl => ?_)
  refine lv_goto (tgt := 4) hx hb dX2_wayBits_31 (by decide) ?_
  refine lv_iload_n hx hb dX2_wayBits_4 rfl (lv_at hl 0 rfl) ?_
  refine lv_bipush (v := 20) hx hb dX2_wayBits_5 (by decide) ?_
  refine lv_icmp_ge (tgt := 34) hx hb dX2_wayBits_7 (by decide) (fun h9 => absurd h9 (by decide)) (fun _ => ?_)
  refine lv_iload_n hx hb dX2_wayBits_10 rfl (lv_at hl 1 rfl) ?_
  refine lv_aload_n hx hb dX2_wayBits_11 rfl (lv_at hl 2 rfl) ?_
  refine lv_iload_n hx hb dX2_wayBits_12 rfl (lv_at hl 0 rfl) ?_
  refine r_callVi (As := [.int 14]) (rest := [.int 0]) (wr := []) F hK hP hD hS hA hO hE (c_X2_hasWayK hO b q 14) k_801 kv_X2_hasWay 1 rfl (by decide +kernel) ⟨Nat.le_of_ble_eq_true rfl, Nat.le_of_ble_eq_true rfl⟩ [0, 1] [] rfl rfl (by decide) (by decide) (by decide) 0 2 rfl rfl rfl hl.1 rfl (Nat.le_of_ble_eq_true rfl) dX2_wayBits_13 ⟨Nat.le_of_ble_eq_true rfl, Nat.le_of_ble_eq_true rfl⟩ (w1 := fun u29 => [(b, .inr (2, [.int 0, .ref (q 40), .ref (q 41), .ref (q 42), .ref (q 43), .ref (q 44), .ref (q 45), .ref (q 46), .ref (q 47)])), ((q 47), .inl (cI, 20, .inl (fun _ => 0)))]) (fun _ => rfl) (fun r30 u29 H locs hp hP hD hS => ?_)
  subst hp
  refine lv_if_eq (tgt := 25) hx hb dX2_wayBits_16 (by decide) (fun _ => ?_) (fun h9 => absurd (by decide) h9)
  refine lv_iconst (v := 0) hx hb dX2_wayBits_25 (by decide) ?_
  refine r_ior (v := 0) F dX2_wayBits_26 (by decide) ?_
  refine lv_istore_n (lv' := [(1, .int 0), (2, .int 14), (0, .ref b)]) hx hb dX2_wayBits_27 rfl hl (by decide) rfl (fun ls hl => ?_)
  refine lv_iinc (v := 15) (lv' := [(2, .int 15), (1, .int 0), (0, .ref b)]) hx hb dX2_wayBits_28 hl (k := 1) rfl (by decide) (by decide) rfl (fun ls hl => ?_)
  refine lv_goto (tgt := 4) hx hb dX2_wayBits_31 (by decide) ?_
  refine lv_iload_n hx hb dX2_wayBits_4 rfl (lv_at hl 0 rfl) ?_
  refine lv_bipush (v := 20) hx hb dX2_wayBits_5 (by decide) ?_
  refine lv_icmp_ge (tgt := 34) hx hb dX2_wayBits_7 (by decide) (fun h9 => absurd h9 (by decide)) (fun _ => ?_)
  refine lv_iload_n hx hb dX2_wayBits_10 rfl (lv_at hl 1 rfl) ?_
  refine lv_aload_n hx hb dX2_wayBits_11 rfl (lv_at hl 2 rfl) ?_
  refine lv_iload_n hx hb dX2_wayBits_12 rfl (lv_at hl 0 rfl) ?_
  refine r_callVi (As := [.int 15]) (rest := [.int 0]) (wr := []) F hK hP hD hS hA hO hE (c_X2_hasWayK hO b q 15) k_801 kv_X2_hasWay 1 rfl (by decide +kernel) ⟨Nat.le_of_ble_eq_true rfl, Nat.le_of_ble_eq_true rfl⟩ [0, 1] [] rfl rfl (by decide) (by decide) (by decide) 0 2 rfl rfl rfl hl.1 rfl (Nat.le_of_ble_eq_true rfl) dX2_wayBits_13 ⟨Nat.le_of_ble_eq_true rfl, Nat.le_of_ble_eq_true rfl⟩ (w1 := fun u31 => [(b, .inr (2, [.int 0, .ref (q 40), .ref (q 41), .ref (q 42), .ref (q 43), .ref (q 44), .ref (q 45), .ref (q 46), .ref (q 47)])), ((q 47), .inl (cI, 20, .inl (fun _ => 0)))]) (fun _ => rfl) (fun r32 u31 H locs hp hP hD hS => ?_)
  subst hp
  refine lv_if_eq (tgt := 25) hx hb dX2_wayBits_16 (by decide) (fun _ => ?_) (fun h9 => absurd (by decide) h9)
  refine lv_iconst (v := 0) hx hb dX2_wayBits_25 (by decide) ?_
  refine r_ior (v := 0) F dX2_wayBits_26 (by decide) ?_
  refine lv_istore_n (lv' := [(1, .int 0), (2, .int 15), (0, .ref b)]) hx hb dX2_wayBits_27 rfl hl (by decide) rfl (fun ls hl => ?_)
  refine lv_iinc (v := 16) (lv' := [(2, .int 16), (1, .int 0), (0, .ref b)]) hx hb dX2_wayBits_28 hl (k := 1) rfl (by decide) (by decide) rfl (fun ls hl => ?_)
  refine lv_goto (tgt := 4) hx hb dX2_wayBits_31 (by decide) ?_
  refine lv_iload_n hx hb dX2_wayBits_4 rfl (lv_at hl 0 rfl) ?_
  refine lv_bipush (v := 20) hx hb dX2_wayBits_5 (by decide) ?_
  refine lv_icmp_ge (tgt := 34) hx hb dX2_wayBits_7 (by decide) (fun h9 => absurd h9 (by decide)) (fun _ => ?_)
  refine lv_iload_n hx hb dX2_wayBits_10 rfl (lv_at hl 1 rfl) ?_
  refine lv_aload_n hx hb dX2_wayBits_11 rfl (lv_at hl 2 rfl) ?_
  refine lv_iload_n hx hb dX2_wayBits_12 rfl (lv_at hl 0 rfl) ?_
  refine r_callVi (As := [.int 16]) (rest := [.int 0]) (wr := []) F hK hP hD hS hA hO hE (c_X2_hasWayK hO b q 16) k_801 kv_X2_hasWay 1 rfl (by decide +kernel) ⟨Nat.le_of_ble_eq_true rfl, Nat.le_of_ble_eq_true rfl⟩ [0, 1] [] rfl rfl (by decide) (by decide) (by decide) 0 2 rfl rfl rfl hl.1 rfl (Nat.le_of_ble_eq_true rfl) dX2_wayBits_13 ⟨Nat.le_of_ble_eq_true rfl, Nat.le_of_ble_eq_true rfl⟩ (w1 := fun u33 => [(b, .inr (2, [.int 0, .ref (q 40), .ref (q 41), .ref (q 42), .ref (q 43), .ref (q 44), .ref (q 45), .ref (q 46), .ref (q 47)])), ((q 47), .inl (cI, 20, .inl (fun _ => 0)))]) (fun _ => rfl) (fun r34 u33 H locs hp hP hD hS => ?_)
  subst hp
  refine lv_if_eq (tgt := 25) hx hb dX2_wayBits_16 (by decide) (fun _ => ?_) (fun h9 => absurd (by decide) h9)
  refine lv_iconst (v := 0) hx hb dX2_wayBits_25 (by decide) ?_
  refine r_ior (v := 0) F dX2_wayBits_26 (by decide) ?_
  refine lv_istore_n (lv' := [(1, .int 0), (2, .int 16), (0, .ref b)]) hx hb dX2_wayBits_27 rfl hl (by decide) rfl (fun ls hl => ?_)
  refine lv_iinc (v := 17) (lv' := [(2, .int 17), (1, .int 0), (0, .ref b)]) hx hb dX2_wayBits_28 hl (k := 1) rfl (by decide) (by decide) rfl (fun ls hl => ?_)
  refine lv_goto (tgt := 4) hx hb dX2_wayBits_31 (by decide) ?_
  refine lv_iload_n hx hb dX2_wayBits_4 rfl (lv_at hl 0 rfl) ?_
  refine lv_bipush (v := 20) hx hb dX2_wayBits_5 (by decide) ?_
  refine lv_icmp_ge (tgt := 34) hx hb dX2_wayBits_7 (by decide) (fun h9 => absurd h9 (by decide)) (fun _ => ?_)
  refine lv_iload_n hx hb dX2_wayBits_10 rfl (lv_at hl 1 rfl) ?_
  refine lv_aload_n hx hb dX2_wayBits_11 rfl (lv_at hl 2 rfl) ?_
  refine lv_iload_n hx hb dX2_wayBits_12 rfl (lv_at hl 0 rfl) ?_
  refine r_callVi (As := [.int 17]) (rest := [.int 0]) (wr := []) F hK hP hD hS hA hO hE (c_X2_hasWayK hO b q 17) k_801 kv_X2_hasWay 1 rfl (by decide +kernel) ⟨Nat.le_of_ble_eq_true rfl, Nat.le_of_ble_eq_true rfl⟩ [0, 1] [] rfl rfl (by decide) (by decide) (by decide) 0 2 rfl rfl rfl hl.1 rfl (Nat.le_of_ble_eq_true rfl) dX2_wayBits_13 ⟨Nat.le_of_ble_eq_true rfl, Nat.le_of_ble_eq_true rfl⟩ (w1 := fun u35 => [(b, .inr (2, [.int 0, .ref (q 40), .ref (q 41), .ref (q 42), .ref (q 43), .ref (q 44), .ref (q 45), .ref (q 46), .ref (q 47)])), ((q 47), .inl (cI, 20, .inl (fun _ => 0)))]) (fun _ => rfl) (fun r36 u35 H locs hp hP hD hS => ?_)
  subst hp
  refine lv_if_eq (tgt := 25) hx hb dX2_wayBits_16 (by decide) (fun _ => ?_) (fun h9 => absurd (by decide) h9)
  refine lv_iconst (v := 0) hx hb dX2_wayBits_25 (by decide) ?_
  refine r_ior (v := 0) F dX2_wayBits_26 (by decide) ?_
  refine lv_istore_n (lv' := [(1, .int 0), (2, .int 17), (0, .ref b)]) hx hb dX2_wayBits_27 rfl hl (by decide) rfl (fun ls hl => ?_)
  refine lv_iinc (v := 18) (lv' := [(2, .int 18), (1, .int 0), (0, .ref b)]) hx hb dX2_wayBits_28 hl (k := 1) rfl (by decide) (by decide) rfl (fun ls hl => ?_)
  refine lv_goto (tgt := 4) hx hb dX2_wayBits_31 (by decide) ?_
  refine lv_iload_n hx hb dX2_wayBits_4 rfl (lv_at hl 0 rfl) ?_
  refine lv_bipush (v := 20) hx hb dX2_wayBits_5 (by decide) ?_
  refine lv_icmp_ge (tgt := 34) hx hb dX2_wayBits_7 (by decide) (fun h9 => absurd h9 (by decide)) (fun _ => ?_)
  refine lv_iload_n hx hb dX2_wayBits_10 rfl (lv_at hl 1 rfl) ?_
  refine lv_aload_n hx hb dX2_wayBits_11 rfl (lv_at hl 2 rfl) ?_
  refine lv_iload_n hx hb dX2_wayBits_12 rfl (lv_at hl 0 rfl) ?_
  refine r_callVi (As := [.int 18]) (rest := [.int 0]) (wr := []) F hK hP hD hS hA hO hE (c_X2_hasWayK hO b q 18) k_801 kv_X2_hasWay 1 rfl (by decide +kernel) ⟨Nat.le_of_ble_eq_true rfl, Nat.le_of_ble_eq_true rfl⟩ [0, 1] [] rfl rfl (by decide) (by decide) (by decide) 0 2 rfl rfl rfl hl.1 rfl (Nat.le_of_ble_eq_true rfl) dX2_wayBits_13 ⟨Nat.le_of_ble_eq_true rfl, Nat.le_of_ble_eq_true rfl⟩ (w1 := fun u37 => [(b, .inr (2, [.int 0, .ref (q 40), .ref (q 41), .ref (q 42), .ref (q 43), .ref (q 44), .ref (q 45), .ref (q 46), .ref (q 47)])), ((q 47), .inl (cI, 20, .inl (fun _ => 0)))]) (fun _ => rfl) (fun r38 u37 H locs hp hP hD hS => ?_)
  subst hp
  refine lv_if_eq (tgt := 25) hx hb dX2_wayBits_16 (by decide) (fun _ => ?_) (fun h9 => absurd (by decide) h9)
  refine lv_iconst (v := 0) hx hb dX2_wayBits_25 (by decide) ?_
  refine r_ior (v := 0) F dX2_wayBits_26 (by decide) ?_
  refine lv_istore_n (lv' := [(1, .int 0), (2, .int 18), (0, .ref b)]) hx hb dX2_wayBits_27 rfl hl (by decide) rfl (fun ls hl => ?_)
  refine lv_iinc (v := 19) (lv' := [(2, .int 19), (1, .int 0), (0, .ref b)]) hx hb dX2_wayBits_28 hl (k := 1) rfl (by decide) (by decide) rfl (fun ls hl => ?_)
  refine lv_goto (tgt := 4) hx hb dX2_wayBits_31 (by decide) ?_
  refine lv_iload_n hx hb dX2_wayBits_4 rfl (lv_at hl 0 rfl) ?_
  refine lv_bipush (v := 20) hx hb dX2_wayBits_5 (by decide) ?_
  refine lv_icmp_ge (tgt := 34) hx hb dX2_wayBits_7 (by decide) (fun h9 => absurd h9 (by decide)) (fun _ => ?_)
  refine lv_iload_n hx hb dX2_wayBits_10 rfl (lv_at hl 1 rfl) ?_
  refine lv_aload_n hx hb dX2_wayBits_11 rfl (lv_at hl 2 rfl) ?_
  refine lv_iload_n hx hb dX2_wayBits_12 rfl (lv_at hl 0 rfl) ?_
  refine r_callVi (As := [.int 19]) (rest := [.int 0]) (wr := []) F hK hP hD hS hA hO hE (c_X2_hasWayK hO b q 19) k_801 kv_X2_hasWay 1 rfl (by decide +kernel) ⟨Nat.le_of_ble_eq_true rfl, Nat.le_of_ble_eq_true rfl⟩ [0, 1] [] rfl rfl (by decide) (by decide) (by decide) 0 2 rfl rfl rfl hl.1 rfl (Nat.le_of_ble_eq_true rfl) dX2_wayBits_13 ⟨Nat.le_of_ble_eq_true rfl, Nat.le_of_ble_eq_true rfl⟩ (w1 := fun u39 => [(b, .inr (2, [.int 0, .ref (q 40), .ref (q 41), .ref (q 42), .ref (q 43), .ref (q 44), .ref (q 45), .ref (q 46), .ref (q 47)])), ((q 47), .inl (cI, 20, .inl (fun _ => 0)))]) (fun _ => rfl) (fun r40 u39 H locs hp hP hD hS => ?_)
  subst hp
  refine lv_if_eq (tgt := 25) hx hb dX2_wayBits_16 (by decide) (fun _ => ?_) (fun h9 => absurd (by decide) h9)
  refine lv_iconst (v := 0) hx hb dX2_wayBits_25 (by decide) ?_
  refine r_ior (v := 0) F dX2_wayBits_26 (by decide) ?_
  refine lv_istore_n (lv' := [(1, .int 0), (2, .int 19), (0, .ref b)]) hx hb dX2_wayBits_27 rfl hl (by decide) rfl (fun ls hl => ?_)
  refine lv_iinc (v := 20) (lv' := [(2, .int 20), (1, .int 0), (0, .ref b)]) hx hb dX2_wayBits_28 hl (k := 1) rfl (by decide) (by decide) rfl (fun ls hl => ?_)
  refine lv_goto (tgt := 4) hx hb dX2_wayBits_31 (by decide) ?_
  refine lv_iload_n hx hb dX2_wayBits_4 rfl (lv_at hl 0 rfl) ?_
  refine lv_bipush (v := 20) hx hb dX2_wayBits_5 (by decide) ?_
  refine lv_icmp_ge (tgt := 34) hx hb dX2_wayBits_7 (by decide) (fun _ => ?_) (fun h9 => absurd (by decide) h9)
  refine lv_iload_n hx hb dX2_wayBits_34 rfl (lv_at hl 1 rfl) ?_
  exact ret 0 (fun _ => 0, fun _ _ => 0) _ _ _ _ _ _ rfl rfl (bw_subP (isC := []) hP rfl) (hD.sub [] (by decide) rfl) hS (Nat.le_of_ble_eq_true rfl) (Nat.le_of_ble_eq_true rfl) dX2_wayBits_35
theorem dX2_laidInAll_0 : decode cX2_laidInAll 0 = .ok (.iconst 0, 1) := by decide +kernel
theorem dX2_laidInAll_1 : decode cX2_laidInAll 1 = .ok (.istore_n 1, 1) := by decide +kernel
theorem dX2_laidInAll_2 : decode cX2_laidInAll 2 = .ok (.iconst 0, 1) := by decide +kernel
theorem dX2_laidInAll_3 : decode cX2_laidInAll 3 = .ok (.istore_n 2, 1) := by decide +kernel
theorem dX2_laidInAll_4 : decode cX2_laidInAll 4 = .ok (.iload_n 2, 1) := by decide +kernel
theorem dX2_laidInAll_5 : decode cX2_laidInAll 5 = .ok (.bipush 20, 2) := by decide +kernel
theorem dX2_laidInAll_7 : decode cX2_laidInAll 7 = .ok (.if_icmp .ge 18, 3) := by decide +kernel
theorem dX2_laidInAll_10 : decode cX2_laidInAll 10 = .ok (.iload_n 1, 1) := by decide +kernel
theorem dX2_laidInAll_11 : decode cX2_laidInAll 11 = .ok (.aload_n 0, 1) := by decide +kernel
theorem dX2_laidInAll_12 : decode cX2_laidInAll 12 = .ok (.getfield 37, 3) := by decide +kernel
theorem dX2_laidInAll_15 : decode cX2_laidInAll 15 = .ok (.iload_n 2, 1) := by decide +kernel
theorem dX2_laidInAll_16 : decode cX2_laidInAll 16 = .ok (.iaload, 1) := by decide +kernel
theorem dX2_laidInAll_17 : decode cX2_laidInAll 17 = .ok (.iadd, 1) := by decide +kernel
theorem dX2_laidInAll_18 : decode cX2_laidInAll 18 = .ok (.istore_n 1, 1) := by decide +kernel
theorem dX2_laidInAll_19 : decode cX2_laidInAll 19 = .ok (.iinc 2 1, 3) := by decide +kernel
theorem dX2_laidInAll_22 : decode cX2_laidInAll 22 = .ok (.goto (-18), 3) := by decide +kernel
theorem dX2_laidInAll_25 : decode cX2_laidInAll 25 = .ok (.iload_n 1, 1) := by decide +kernel
theorem dX2_laidInAll_26 : decode cX2_laidInAll 26 = .ok (.ireturn, 1) := by decide +kernel
abbrev rm_X2_laidInAll : Room := { frames := 0, cells := 0, slots := 0, locals := 0 }
set_option maxRecDepth 100000 in
set_option maxHeartbeats 4000000 in
theorem c_X2_laidInAll {l : Launch} {E : (Nat → Prop) → State → Prop} (hO : bw_Ok E) {G : va_G} {cI cB cJ cN cW : ClassId} (b : Nat) (q : Nat → Nat) : bw_Ci (S := bw_U) l yX2_laidInAll (bw_ws (Cond.code yX2_laidInAll cX2_laidInAll 3 (some .int))) rm_X2_laidInAll E G (bw_kt cI cB cJ cN cW) [.ref b] [(b, .inr (2, [.int 0, .ref (q 40), .ref (q 41), .ref (q 42), .ref (q 43), .ref (q 44), .ref (q 45), .ref (q 46), .ref (q 47)])), ((q 47), .inl (cI, 20, .inl (fun _ => 0)))] (fun r _ => r = 0) (fun _ => []) := by
  refine bw_Ci.of (cc := cX2_laidInAll) (maxL := 3) (ty := .int) (by decide) rfl (Nat.le_of_ble_eq_true rfl) ?_
  intro p e s m below meth c A Q hx hb hml hts hown hin hK hA hS hP hD hE ret ls hl
  have F : CallFix p m c cX2_laidInAll 3 s ([.ref b] : List Value).toArray bw_T RX2 := ⟨hx, hb, hml, hown, fun w h => hts w (List.mem_cons_of_mem _ h)⟩
  have hl : lv_has ls 3 [(0, .ref b)] := hl
  refine lv_iconst (v := 0) hx hb dX2_laidInAll_0 (by decide) ?_
  refine lv_istore_n (lv' := [(1, .int 0), (0, .ref b)]) hx hb dX2_laidInAll_1 rfl hl (by decide) rfl (fun ls hl => ?_)
  refine lv_iconst (v := 0) hx hb dX2_laidInAll_2 (by decide) ?_
  refine lv_istore_n (lv' := [(2, .int 0), (1, .int 0), (0, .ref b)]) hx hb dX2_laidInAll_3 rfl hl (by decide) rfl (fun ls hl => ?_)
  refine lv_iload_n hx hb dX2_laidInAll_4 rfl (lv_at hl 0 rfl) ?_
  refine lv_bipush (v := 20) hx hb dX2_laidInAll_5 (by decide) ?_
  refine lv_icmp_ge (tgt := 25) hx hb dX2_laidInAll_7 (by decide) (fun h9 => absurd h9 (by decide)) (fun _ => ?_)
  refine lv_iload_n hx hb dX2_laidInAll_10 rfl (lv_at hl 1 rfl) ?_
  refine lv_aload_n hx hb dX2_laidInAll_11 rfl (lv_at hl 2 rfl) ?_
  refine r_get F hK hP 0 8 rfl rfl in_X2 (by decide) k_169 rfl dX2_laidInAll_12 ?_
  refine lv_iload_n hx hb dX2_laidInAll_15 rfl (lv_at hl 0 rfl) ?_
  refine r_iald (v := 0) F hK hP 1 0 rfl rfl (bw_vin (by decide)) dX2_laidInAll_16 rfl ?_
  refine r_iadd (v := 0) F dX2_laidInAll_17 (by decide) ?_
  refine lv_istore_n (lv' := [(1, .int 0), (2, .int 0), (0, .ref b)]) hx hb dX2_laidInAll_18 rfl hl (by decide) rfl (fun ls hl => ?_)
  refine lv_iinc (v := 1) (lv' := [(2, .int 1), (1, .int 0), (0, .ref b)]) hx hb dX2_laidInAll_19 hl (k := 1) rfl (by decide) (by decide) rfl (fun ls hl => ?_)
  refine lv_goto (tgt := 4) hx hb dX2_laidInAll_22 (by decide) ?_
  refine lv_iload_n hx hb dX2_laidInAll_4 rfl (lv_at hl 0 rfl) ?_
  refine lv_bipush (v := 20) hx hb dX2_laidInAll_5 (by decide) ?_
  refine lv_icmp_ge (tgt := 25) hx hb dX2_laidInAll_7 (by decide) (fun h9 => absurd h9 (by decide)) (fun _ => ?_)
  refine lv_iload_n hx hb dX2_laidInAll_10 rfl (lv_at hl 1 rfl) ?_
  refine lv_aload_n hx hb dX2_laidInAll_11 rfl (lv_at hl 2 rfl) ?_
  refine r_get F hK hP 0 8 rfl rfl in_X2 (by decide) k_169 rfl dX2_laidInAll_12 ?_
  refine lv_iload_n hx hb dX2_laidInAll_15 rfl (lv_at hl 0 rfl) ?_
  refine r_iald (v := 0) F hK hP 1 0 rfl rfl (bw_vin (by decide)) dX2_laidInAll_16 rfl ?_
  refine r_iadd (v := 0) F dX2_laidInAll_17 (by decide) ?_
  refine lv_istore_n (lv' := [(1, .int 0), (2, .int 1), (0, .ref b)]) hx hb dX2_laidInAll_18 rfl hl (by decide) rfl (fun ls hl => ?_)
  refine lv_iinc (v := 2) (lv' := [(2, .int 2), (1, .int 0), (0, .ref b)]) hx hb dX2_laidInAll_19 hl (k := 1) rfl (by decide) (by decide) rfl (fun ls hl => ?_)
  refine lv_goto (tgt := 4) hx hb dX2_laidInAll_22 (by decide) ?_
  refine lv_iload_n hx hb dX2_laidInAll_4 rfl (lv_at hl 0 rfl) ?_
  refine lv_bipush (v := 20) hx hb dX2_laidInAll_5 (by decide) ?_
  refine lv_icmp_ge (tgt := 25) hx hb dX2_laidInAll_7 (by decide) (fun h9 => absurd h9 (by decide)) (fun _ => ?_)
  refine lv_iload_n hx hb dX2_laidInAll_10 rfl (lv_at hl 1 rfl) ?_
  refine lv_aload_n hx hb dX2_laidInAll_11 rfl (lv_at hl 2 rfl) ?_
  refine r_get F hK hP 0 8 rfl rfl in_X2 (by decide) k_169 rfl dX2_laidInAll_12 ?_
  refine lv_iload_n hx hb dX2_laidInAll_15 rfl (lv_at hl 0 rfl) ?_
  refine r_iald (v := 0) F hK hP 1 0 rfl rfl (bw_vin (by decide)) dX2_laidInAll_16 rfl ?_
  refine r_iadd (v := 0) F dX2_laidInAll_17 (by decide) ?_
  refine lv_istore_n (lv' := [(1, .int 0), (2, .int 2), (0, .ref b)]) hx hb dX2_laidInAll_18 rfl hl (by decide) rfl (fun ls hl => ?_)
  refine lv_iinc (v := 3) (lv' := [(2, .int 3), (1, .int 0), (0, .ref b)]) hx hb dX2_laidInAll_19 hl (k := 1) rfl (by decide) (by decide) rfl (fun ls hl => ?_)
  refine lv_goto (tgt := 4) hx hb dX2_laidInAll_22 (by decide) ?_
  refine lv_iload_n hx hb dX2_laidInAll_4 rfl (lv_at hl 0 rfl) ?_
  refine lv_bipush (v := 20) hx hb dX2_laidInAll_5 (by decide) ?_
  refine lv_icmp_ge (tgt := 25) hx hb dX2_laidInAll_7 (by decide) (fun h9 => absurd h9 (by decide)) (fun _ => ?_)
  refine lv_iload_n hx hb dX2_laidInAll_10 rfl (lv_at hl 1 rfl) ?_
  refine lv_aload_n hx hb dX2_laidInAll_11 rfl (lv_at hl 2 rfl) ?_
  refine r_get F hK hP 0 8 rfl rfl in_X2 (by decide) k_169 rfl dX2_laidInAll_12 ?_
  refine lv_iload_n hx hb dX2_laidInAll_15 rfl (lv_at hl 0 rfl) ?_
  refine r_iald (v := 0) F hK hP 1 0 rfl rfl (bw_vin (by decide)) dX2_laidInAll_16 rfl ?_
  refine r_iadd (v := 0) F dX2_laidInAll_17 (by decide) ?_
  refine lv_istore_n (lv' := [(1, .int 0), (2, .int 3), (0, .ref b)]) hx hb dX2_laidInAll_18 rfl hl (by decide) rfl (fun ls hl => ?_)
  refine lv_iinc (v := 4) (lv' := [(2, .int 4), (1, .int 0), (0, .ref b)]) hx hb dX2_laidInAll_19 hl (k := 1) rfl (by decide) (by decide) rfl (fun ls hl => ?_)
  refine lv_goto (tgt := 4) hx hb dX2_laidInAll_22 (by decide) ?_
  refine lv_iload_n hx hb dX2_laidInAll_4 rfl (lv_at hl 0 rfl) ?_
  refine lv_bipush (v := 20) hx hb dX2_laidInAll_5 (by decide) ?_
  refine lv_icmp_ge (tgt := 25) hx hb dX2_laidInAll_7 (by decide) (fun h9 => absurd h9 (by decide)) (fun _ => ?_)
  refine lv_iload_n hx hb dX2_laidInAll_10 rfl (lv_at hl 1 rfl) ?_
  refine lv_aload_n hx hb dX2_laidInAll_11 rfl (lv_at hl 2 rfl) ?_
  refine r_get F hK hP 0 8 rfl rfl in_X2 (by decide) k_169 rfl dX2_laidInAll_12 ?_
  refine lv_iload_n hx hb dX2_laidInAll_15 rfl (lv_at hl 0 rfl) ?_
  refine r_iald (v := 0) F hK hP 1 0 rfl rfl (bw_vin (by decide)) dX2_laidInAll_16 rfl ?_
  refine r_iadd (v := 0) F dX2_laidInAll_17 (by decide) ?_
  refine lv_istore_n (lv' := [(1, .int 0), (2, .int 4), (0, .ref b)]) hx hb dX2_laidInAll_18 rfl hl (by decide) rfl (fun ls hl => ?_)
  refine lv_iinc (v := 5) (lv' := [(2, .int 5), (1, .int 0), (0, .ref b)]) hx hb dX2_laidInAll_19 hl (k := 1) rfl (by decide) (by decide) rfl (fun ls hl => ?_)
  refine lv_goto (tgt := 4) hx hb dX2_laidInAll_22 (by decide) ?_
  refine lv_iload_n hx hb dX2_laidInAll_4 rfl (lv_at hl 0 rfl) ?_
  refine lv_bipush (v := 20) hx hb dX2_laidInAll_5 (by decide) ?_
  refine lv_icmp_ge (tgt := 25) hx hb dX2_laidInAll_7 (by decide) (fun h9 => absurd h9 (by decide)) (fun _ => ?_)
  refine lv_iload_n hx hb dX2_laidInAll_10 rfl (lv_at hl 1 rfl) ?_
  refine lv_aload_n hx hb dX2_laidInAll_11 rfl (lv_at hl 2 rfl) ?_
  refine r_get F hK hP 0 8 rfl rfl in_X2 (by decide) k_169 rfl dX2_laidInAll_12 ?_
  refine lv_iload_n hx hb dX2_laidInAll_15 rfl (lv_at hl 0 rfl) ?_
  refine r_iald (v := 0) F hK hP 1 0 rfl rfl (bw_vin (by decide)) dX2_laidInAll_16 rfl ?_
  refine r_iadd (v := 0) F dX2_laidInAll_17 (by decide) ?_
  refine lv_istore_n (lv' := [(1, .int 0), (2, .int 5), (0, .ref b)]) hx hb dX2_laidInAll_18 rfl hl (by decide) rfl (fun ls hl => ?_)
  refine lv_iinc (v := 6) (lv' := [(2, .int 6), (1, .int 0), (0, .ref b)]) hx hb dX2_laidInAll_19 hl (k := 1) rfl (by decide) (by decide) rfl (fun ls hl => ?_)
  refine lv_goto (tgt := 4) hx hb dX2_laidInAll_22 (by decide) ?_
  refine lv_iload_n hx hb dX2_laidInAll_4 rfl (lv_at hl 0 rfl) ?_
  refine lv_bipush (v := 20) hx hb dX2_laidInAll_5 (by decide) ?_
  refine lv_icmp_ge (tgt := 25) hx hb dX2_laidInAll_7 (by decide) (fun h9 => absurd h9 (by decide)) (fun _ => ?_)
  refine lv_iload_n hx hb dX2_laidInAll_10 rfl (lv_at hl 1 rfl) ?_
  refine lv_aload_n hx hb dX2_laidInAll_11 rfl (lv_at hl 2 rfl) ?_
  refine r_get F hK hP 0 8 rfl rfl in_X2 (by decide) k_169 rfl dX2_laidInAll_12 ?_
  refine lv_iload_n hx hb dX2_laidInAll_15 rfl (lv_at hl 0 rfl) ?_
  refine r_iald (v := 0) F hK hP 1 0 rfl rfl (bw_vin (by decide)) dX2_laidInAll_16 rfl ?_
  refine r_iadd (v := 0) F dX2_laidInAll_17 (by decide) ?_
  refine lv_istore_n (lv' := [(1, .int 0), (2, .int 6), (0, .ref b)]) hx hb dX2_laidInAll_18 rfl hl (by decide) rfl (fun ls hl => ?_)
  refine lv_iinc (v := 7) (lv' := [(2, .int 7), (1, .int 0), (0, .ref b)]) hx hb dX2_laidInAll_19 hl (k := 1) rfl (by decide) (by decide) rfl (fun ls hl => ?_)
  refine lv_goto (tgt := 4) hx hb dX2_laidInAll_22 (by decide) ?_
  refine lv_iload_n hx hb dX2_laidInAll_4 rfl (lv_at hl 0 rfl) ?_
  refine lv_bipush (v := 20) hx hb dX2_laidInAll_5 (by decide) ?_
  refine lv_icmp_ge (tgt := 25) hx hb dX2_laidInAll_7 (by decide) (fun h9 => absurd h9 (by decide)) (fun _ => ?_)
  refine lv_iload_n hx hb dX2_laidInAll_10 rfl (lv_at hl 1 rfl) ?_
  refine lv_aload_n hx hb dX2_laidInAll_11 rfl (lv_at hl 2 rfl) ?_
  refine r_get F hK hP 0 8 rfl rfl in_X2 (by decide) k_169 rfl dX2_laidInAll_12 ?_
  refine lv_iload_n hx hb dX2_laidInAll_15 rfl (lv_at hl 0 rfl) ?_
  refine r_iald (v := 0) F hK hP 1 0 rfl rfl (bw_vin (by decide)) dX2_laidInAll_16 rfl ?_
  refine r_iadd (v := 0) F dX2_laidInAll_17 (by decide) ?_
  refine lv_istore_n (lv' := [(1, .int 0), (2, .int 7), (0, .ref b)]) hx hb dX2_laidInAll_18 rfl hl (by decide) rfl (fun ls hl => ?_)
  refine lv_iinc (v := 8) (lv' := [(2, .int 8), (1, .int 0), (0, .ref b)]) hx hb dX2_laidInAll_19 hl (k := 1) rfl (by decide) (by decide) rfl (fun ls hl => ?_)
  refine lv_goto (tgt := 4) hx hb dX2_laidInAll_22 (by decide) ?_
  refine lv_iload_n hx hb dX2_laidInAll_4 rfl (lv_at hl 0 rfl) ?_
  refine lv_bipush (v := 20) hx hb dX2_laidInAll_5 (by decide) ?_
  refine lv_icmp_ge (tgt := 25) hx hb dX2_laidInAll_7 (by decide) (fun h9 => absurd h9 (by decide)) (fun _ => ?_)
  refine lv_iload_n hx hb dX2_laidInAll_10 rfl (lv_at hl 1 rfl) ?_
  refine lv_aload_n hx hb dX2_laidInAll_11 rfl (lv_at hl 2 rfl) ?_
  refine r_get F hK hP 0 8 rfl rfl in_X2 (by decide) k_169 rfl dX2_laidInAll_12 ?_
  refine lv_iload_n hx hb dX2_laidInAll_15 rfl (lv_at hl 0 rfl) ?_
  refine r_iald (v := 0) F hK hP 1 0 rfl rfl (bw_vin (by decide)) dX2_laidInAll_16 rfl ?_
  refine r_iadd (v := 0) F dX2_laidInAll_17 (by decide) ?_
  refine lv_istore_n (lv' := [(1, .int 0), (2, .int 8), (0, .ref b)]) hx hb dX2_laidInAll_18 rfl hl (by decide) rfl (fun ls hl => ?_)
  refine lv_iinc (v := 9) (lv' := [(2, .int 9), (1, .int 0), (0, .ref b)]) hx hb dX2_laidInAll_19 hl (k := 1) rfl (by decide) (by decide) rfl (fun ls hl => ?_)
  refine lv_goto (tgt := 4) hx hb dX2_laidInAll_22 (by decide) ?_
  refine lv_iload_n hx hb dX2_laidInAll_4 rfl (lv_at hl 0 rfl) ?_
  refine lv_bipush (v := 20) hx hb dX2_laidInAll_5 (by decide) ?_
  refine lv_icmp_ge (tgt := 25) hx hb dX2_laidInAll_7 (by decide) (fun h9 => absurd h9 (by decide)) (fun _ => ?_)
  refine lv_iload_n hx hb dX2_laidInAll_10 rfl (lv_at hl 1 rfl) ?_
  refine lv_aload_n hx hb dX2_laidInAll_11 rfl (lv_at hl 2 rfl) ?_
  refine r_get F hK hP 0 8 rfl rfl in_X2 (by decide) k_169 rfl dX2_laidInAll_12 ?_
  refine lv_iload_n hx hb dX2_laidInAll_15 rfl (lv_at hl 0 rfl) ?_
  refine r_iald (v := 0) F hK hP 1 0 rfl rfl (bw_vin (by decide)) dX2_laidInAll_16 rfl ?_
  refine r_iadd (v := 0) F dX2_laidInAll_17 (by decide) ?_
  refine lv_istore_n (lv' := [(1, .int 0), (2, .int 9), (0, .ref b)]) hx hb dX2_laidInAll_18 rfl hl (by decide) rfl (fun ls hl => ?_)
  refine lv_iinc (v := 10) (lv' := [(2, .int 10), (1, .int 0), (0, .ref b)]) hx hb dX2_laidInAll_19 hl (k := 1) rfl (by decide) (by decide) rfl (fun ls hl => ?_)
  refine lv_goto (tgt := 4) hx hb dX2_laidInAll_22 (by decide) ?_
  refine lv_iload_n hx hb dX2_laidInAll_4 rfl (lv_at hl 0 rfl) ?_
  refine lv_bipush (v := 20) hx hb dX2_laidInAll_5 (by decide) ?_
  refine lv_icmp_ge (tgt := 25) hx hb dX2_laidInAll_7 (by decide) (fun h9 => absurd h9 (by decide)) (fun _ => ?_)
  refine lv_iload_n hx hb dX2_laidInAll_10 rfl (lv_at hl 1 rfl) ?_
  refine lv_aload_n hx hb dX2_laidInAll_11 rfl (lv_at hl 2 rfl) ?_
  refine r_get F hK hP 0 8 rfl rfl in_X2 (by decide) k_169 rfl dX2_laidInAll_12 ?_
  refine lv_iload_n hx hb dX2_laidInAll_15 rfl (lv_at hl 0 rfl) ?_
  refine r_iald (v := 0) F hK hP 1 0 rfl rfl (bw_vin (by decide)) dX2_laidInAll_16 rfl ?_
  refine r_iadd (v := 0) F dX2_laidInAll_17 (by decide) ?_
  refine lv_istore_n (lv' := [(1, .int 0), (2, .int 10), (0, .ref b)]) hx hb dX2_laidInAll_18 rfl hl (by decide) rfl (fun ls hl => ?_)
  refine lv_iinc (v := 11) (lv' := [(2, .int 11), (1, .int 0), (0, .ref b)]) hx hb dX2_laidInAll_19 hl (k := 1) rfl (by decide) (by decide) rfl (fun ls hl => ?_)
  refine lv_goto (tgt := 4) hx hb dX2_laidInAll_22 (by decide) ?_
  refine lv_iload_n hx hb dX2_laidInAll_4 rfl (lv_at hl 0 rfl) ?_
  refine lv_bipush (v := 20) hx hb dX2_laidInAll_5 (by decide) ?_
  refine lv_icmp_ge (tgt := 25) hx hb dX2_laidInAll_7 (by decide) (fun h9 => absurd h9 (by decide)) (fun _ => ?_)
  refine lv_iload_n hx hb dX2_laidInAll_10 rfl (lv_at hl 1 rfl) ?_
  refine lv_aload_n hx hb dX2_laidInAll_11 rfl (lv_at hl 2 rfl) ?_
  refine r_get F hK hP 0 8 rfl rfl in_X2 (by decide) k_169 rfl dX2_laidInAll_12 ?_
  refine lv_iload_n hx hb dX2_laidInAll_15 rfl (lv_at hl 0 rfl) ?_
  refine r_iald (v := 0) F hK hP 1 0 rfl rfl (bw_vin (by decide)) dX2_laidInAll_16 rfl ?_
  refine r_iadd (v := 0) F dX2_laidInAll_17 (by decide) ?_
  refine lv_istore_n (lv' := [(1, .int 0), (2, .int 11), (0, .ref b)]) hx hb dX2_laidInAll_18 rfl hl (by decide) rfl (fun ls hl => ?_)
  refine lv_iinc (v := 12) (lv' := [(2, .int 12), (1, .int 0), (0, .ref b)]) hx hb dX2_laidInAll_19 hl (k := 1) rfl (by decide) (by decide) rfl (fun ls hl => ?_)
  refine lv_goto (tgt := 4) hx hb dX2_laidInAll_22 (by decide) ?_
  refine lv_iload_n hx hb dX2_laidInAll_4 rfl (lv_at hl 0 rfl) ?_
  refine lv_bipush (v := 20) hx hb dX2_laidInAll_5 (by decide) ?_
  refine lv_icmp_ge (tgt := 25) hx hb dX2_laidInAll_7 (by decide) (fun h9 => absurd h9 (by decide)) (fun _ => ?_)
  refine lv_iload_n hx hb dX2_laidInAll_10 rfl (lv_at hl 1 rfl) ?_
  refine lv_aload_n hx hb dX2_laidInAll_11 rfl (lv_at hl 2 rfl) ?_
  refine r_get F hK hP 0 8 rfl rfl in_X2 (by decide) k_169 rfl dX2_laidInAll_12 ?_
  refine lv_iload_n hx hb dX2_laidInAll_15 rfl (lv_at hl 0 rfl) ?_
  refine r_iald (v := 0) F hK hP 1 0 rfl rfl (bw_vin (by decide)) dX2_laidInAll_16 rfl ?_
  refine r_iadd (v := 0) F dX2_laidInAll_17 (by decide) ?_
  refine lv_istore_n (lv' := [(1, .int 0), (2, .int 12), (0, .ref b)]) hx hb dX2_laidInAll_18 rfl hl (by decide) rfl (fun ls hl => ?_)
  refine lv_iinc (v := 13) (lv' := [(2, .int 13), (1, .int 0), (0, .ref b)]) hx hb dX2_laidInAll_19 hl (k := 1) rfl (by decide) (by decide) rfl (fun ls hl => ?_)
  refine lv_goto (tgt := 4) hx hb dX2_laidInAll_22 (by decide) ?_
  refine lv_iload_n hx hb dX2_laidInAll_4 rfl (lv_at hl 0 rfl) ?_
  refine lv_bipush (v := 20) hx hb dX2_laidInAll_5 (by decide) ?_
  refine lv_icmp_ge (tgt := 25) hx hb dX2_laidInAll_7 (by decide) (fun h9 => absurd h9 (by decide)) (fun _ => ?_)
  refine lv_iload_n hx hb dX2_laidInAll_10 rfl (lv_at hl 1 rfl) ?_
  refine lv_aload_n hx hb dX2_laidInAll_11 rfl (lv_at hl 2 rfl) ?_
  refine r_get F hK hP 0 8 rfl rfl in_X2 (by decide) k_169 rfl dX2_laidInAll_12 ?_
  refine lv_iload_n hx hb dX2_laidInAll_15 rfl (lv_at hl 0 rfl) ?_
  refine r_iald (v := 0) F hK hP 1 0 rfl rfl (bw_vin (by decide)) dX2_laidInAll_16 rfl ?_
  refine r_iadd (v := 0) F dX2_laidInAll_17 (by decide) ?_
  refine lv_istore_n (lv' := [(1, .int 0), (2, .int 13), (0, .ref b)]) hx hb dX2_laidInAll_18 rfl hl (by decide) rfl (fun ls hl => ?_)
  refine lv_iinc (v := 14) (lv' := [(2, .int 14), (1, .int 0), (0, .ref b)]) hx hb dX2_laidInAll_19 hl (k := 1) rfl (by decide) (by decide) rfl (fun ls hl => ?_)
  refine lv_goto (tgt := 4) hx hb dX2_laidInAll_22 (by decide) ?_
  refine lv_iload_n hx hb dX2_laidInAll_4 rfl (lv_at hl 0 rfl) ?_
  refine lv_bipush (v := 20) hx hb dX2_laidInAll_5 (by decide) ?_
  refine lv_icmp_ge (tgt := 25) hx hb dX2_laidInAll_7 (by decide) (fun h9 => absurd h9 (by decide)) (fun _ => ?_)
  refine lv_iload_n hx hb dX2_laidInAll_10 rfl (lv_at hl 1 rfl) ?_
  refine lv_aload_n hx hb dX2_laidInAll_11 rfl (lv_at hl 2 rfl) ?_
  refine r_get F hK hP 0 8 rfl rfl in_X2 (by decide) k_169 rfl dX2_laidInAll_12 ?_
  refine lv_iload_n hx hb dX2_laidInAll_15 rfl (lv_at hl 0 rfl) ?_
  refine r_iald (v := 0) F hK hP 1 0 rfl rfl (bw_vin (by decide)) dX2_laidInAll_16 rfl ?_
  refine r_iadd (v := 0) F dX2_laidInAll_17 (by decide) ?_
  refine lv_istore_n (lv' := [(1, .int 0), (2, .int 14), (0, .ref b)]) hx hb dX2_laidInAll_18 rfl hl (by decide) rfl (fun ls hl => ?_)
  refine lv_iinc (v := 15) (lv' := [(2, .int 15), (1, .int 0), (0, .ref b)]) hx hb dX2_laidInAll_19 hl (k := 1) rfl (by decide) (by decide) rfl (fun ls hl => ?_)
  refine lv_goto (tgt := 4) hx hb dX2_laidInAll_22 (by decide) ?_
  refine lv_iload_n hx hb dX2_laidInAll_4 rfl (lv_at hl 0 rfl) ?_
  refine lv_bipush (v := 20) hx hb dX2_laidInAll_5 (by decide) ?_
  refine lv_icmp_ge (tgt := 25) hx hb dX2_laidInAll_7 (by decide) (fun h9 => absurd h9 (by decide)) (fun _ => ?_)
  refine lv_iload_n hx hb dX2_laidInAll_10 rfl (lv_at hl 1 rfl) ?_
  refine lv_aload_n hx hb dX2_laidInAll_11 rfl (lv_at hl 2 rfl) ?_
  refine r_get F hK hP 0 8 rfl rfl in_X2 (by decide) k_169 rfl dX2_laidInAll_12 ?_
  refine lv_iload_n hx hb dX2_laidInAll_15 rfl (lv_at hl 0 rfl) ?_
  refine r_iald (v := 0) F hK hP 1 0 rfl rfl (bw_vin (by decide)) dX2_laidInAll_16 rfl ?_
  refine r_iadd (v := 0) F dX2_laidInAll_17 (by decide) ?_
  refine lv_istore_n (lv' := [(1, .int 0), (2, .int 15), (0, .ref b)]) hx hb dX2_laidInAll_18 rfl hl (by decide) rfl (fun ls hl => ?_)
  refine lv_iinc (v := 16) (lv' := [(2, .int 16), (1, .int 0), (0, .ref b)]) hx hb dX2_laidInAll_19 hl (k := 1) rfl (by decide) (by decide) rfl (fun ls hl => ?_)
  refine lv_goto (tgt := 4) hx hb dX2_laidInAll_22 (by decide) ?_
  refine lv_iload_n hx hb dX2_laidInAll_4 rfl (lv_at hl 0 rfl) ?_
  refine lv_bipush (v := 20) hx hb dX2_laidInAll_5 (by decide) ?_
  refine lv_icmp_ge (tgt := 25) hx hb dX2_laidInAll_7 (by decide) (fun h9 => absurd h9 (by decide)) (fun _ => ?_)
  refine lv_iload_n hx hb dX2_laidInAll_10 rfl (lv_at hl 1 rfl) ?_
  refine lv_aload_n hx hb dX2_laidInAll_11 rfl (lv_at hl 2 rfl) ?_
  refine r_get F hK hP 0 8 rfl rfl in_X2 (by decide) k_169 rfl dX2_laidInAll_12 ?_
  refine lv_iload_n hx hb dX2_laidInAll_15 rfl (lv_at hl 0 rfl) ?_
  refine r_iald (v := 0) F hK hP 1 0 rfl rfl (bw_vin (by decide)) dX2_laidInAll_16 rfl ?_
  refine r_iadd (v := 0) F dX2_laidInAll_17 (by decide) ?_
  refine lv_istore_n (lv' := [(1, .int 0), (2, .int 16), (0, .ref b)]) hx hb dX2_laidInAll_18 rfl hl (by decide) rfl (fun ls hl => ?_)
  refine lv_iinc (v := 17) (lv' := [(2, .int 17), (1, .int 0), (0, .ref b)]) hx hb dX2_laidInAll_19 hl (k := 1) rfl (by decide) (by decide) rfl (fun ls hl => ?_)
  refine lv_goto (tgt := 4) hx hb dX2_laidInAll_22 (by decide) ?_
  refine lv_iload_n hx hb dX2_laidInAll_4 rfl (lv_at hl 0 rfl) ?_
  refine lv_bipush (v := 20) hx hb dX2_laidInAll_5 (by decide) ?_
  refine lv_icmp_ge (tgt := 25) hx hb dX2_laidInAll_7 (by decide) (fun h9 => absurd h9 (by decide)) (fun _ => ?_)
  refine lv_iload_n hx hb dX2_laidInAll_10 rfl (lv_at hl 1 rfl) ?_
  refine lv_aload_n hx hb dX2_laidInAll_11 rfl (lv_at hl 2 rfl) ?_
  refine r_get F hK hP 0 8 rfl rfl in_X2 (by decide) k_169 rfl dX2_laidInAll_12 ?_
  refine lv_iload_n hx hb dX2_laidInAll_15 rfl (lv_at hl 0 rfl) ?_
  refine r_iald (v := 0) F hK hP 1 0 rfl rfl (bw_vin (by decide)) dX2_laidInAll_16 rfl ?_
  refine r_iadd (v := 0) F dX2_laidInAll_17 (by decide) ?_
  refine lv_istore_n (lv' := [(1, .int 0), (2, .int 17), (0, .ref b)]) hx hb dX2_laidInAll_18 rfl hl (by decide) rfl (fun ls hl => ?_)
  refine lv_iinc (v := 18) (lv' := [(2, .int 18), (1, .int 0), (0, .ref b)]) hx hb dX2_laidInAll_19 hl (k := 1) rfl (by decide) (by decide) rfl (fun ls hl => ?_)
  refine lv_goto (tgt := 4) hx hb dX2_laidInAll_22 (by decide) ?_
  refine lv_iload_n hx hb dX2_laidInAll_4 rfl (lv_at hl 0 rfl) ?_
  refine lv_bipush (v := 20) hx hb dX2_laidInAll_5 (by decide) ?_
  refine lv_icmp_ge (tgt := 25) hx hb dX2_laidInAll_7 (by decide) (fun h9 => absurd h9 (by decide)) (fun _ => ?_)
  refine lv_iload_n hx hb dX2_laidInAll_10 rfl (lv_at hl 1 rfl) ?_
  refine lv_aload_n hx hb dX2_laidInAll_11 rfl (lv_at hl 2 rfl) ?_
  refine r_get F hK hP 0 8 rfl rfl in_X2 (by decide) k_169 rfl dX2_laidInAll_12 ?_
  refine lv_iload_n hx hb dX2_laidInAll_15 rfl (lv_at hl 0 rfl) ?_
  refine r_iald (v := 0) F hK hP 1 0 rfl rfl (bw_vin (by decide)) dX2_laidInAll_16 rfl ?_
  refine r_iadd (v := 0) F dX2_laidInAll_17 (by decide) ?_
  refine lv_istore_n (lv' := [(1, .int 0), (2, .int 18), (0, .ref b)]) hx hb dX2_laidInAll_18 rfl hl (by decide) rfl (fun ls hl => ?_)
  refine lv_iinc (v := 19) (lv' := [(2, .int 19), (1, .int 0), (0, .ref b)]) hx hb dX2_laidInAll_19 hl (k := 1) rfl (by decide) (by decide) rfl (fun ls hl => ?_)
  refine lv_goto (tgt := 4) hx hb dX2_laidInAll_22 (by decide) ?_
  refine lv_iload_n hx hb dX2_laidInAll_4 rfl (lv_at hl 0 rfl) ?_
  refine lv_bipush (v := 20) hx hb dX2_laidInAll_5 (by decide) ?_
  refine lv_icmp_ge (tgt := 25) hx hb dX2_laidInAll_7 (by decide) (fun h9 => absurd h9 (by decide)) (fun _ => ?_)
  refine lv_iload_n hx hb dX2_laidInAll_10 rfl (lv_at hl 1 rfl) ?_
  refine lv_aload_n hx hb dX2_laidInAll_11 rfl (lv_at hl 2 rfl) ?_
  refine r_get F hK hP 0 8 rfl rfl in_X2 (by decide) k_169 rfl dX2_laidInAll_12 ?_
  refine lv_iload_n hx hb dX2_laidInAll_15 rfl (lv_at hl 0 rfl) ?_
  refine r_iald (v := 0) F hK hP 1 0 rfl rfl (bw_vin (by decide)) dX2_laidInAll_16 rfl ?_
  refine r_iadd (v := 0) F dX2_laidInAll_17 (by decide) ?_
  refine lv_istore_n (lv' := [(1, .int 0), (2, .int 19), (0, .ref b)]) hx hb dX2_laidInAll_18 rfl hl (by decide) rfl (fun ls hl => ?_)
  refine lv_iinc (v := 20) (lv' := [(2, .int 20), (1, .int 0), (0, .ref b)]) hx hb dX2_laidInAll_19 hl (k := 1) rfl (by decide) (by decide) rfl (fun ls hl => ?_)
  refine lv_goto (tgt := 4) hx hb dX2_laidInAll_22 (by decide) ?_
  refine lv_iload_n hx hb dX2_laidInAll_4 rfl (lv_at hl 0 rfl) ?_
  refine lv_bipush (v := 20) hx hb dX2_laidInAll_5 (by decide) ?_
  refine lv_icmp_ge (tgt := 25) hx hb dX2_laidInAll_7 (by decide) (fun _ => ?_) (fun h9 => absurd (by decide) h9)
  refine lv_iload_n hx hb dX2_laidInAll_25 rfl (lv_at hl 1 rfl) ?_
  exact ret 0 (fun _ => 0, fun _ _ => 0) _ _ _ _ _ _ rfl rfl (bw_subP (isC := []) hP rfl) (hD.sub [] (by decide) rfl) hS (Nat.le_of_ble_eq_true rfl) (Nat.le_of_ble_eq_true rfl) dX2_laidInAll_26
theorem dJ6_bitCount_0f7a4_0 : decode cJ6_bitCount_0f7a4 0 = .ok (.iload_n 0, 1) := by decide +kernel
theorem dJ6_bitCount_0f7a4_1 : decode cJ6_bitCount_0f7a4 1 = .ok (.iload_n 0, 1) := by decide +kernel
theorem dJ6_bitCount_0f7a4_2 : decode cJ6_bitCount_0f7a4 2 = .ok (.iconst 1, 1) := by decide +kernel
theorem dJ6_bitCount_0f7a4_3 : decode cJ6_bitCount_0f7a4 3 = .ok (.iushr, 1) := by decide +kernel
theorem dJ6_bitCount_0f7a4_4 : decode cJ6_bitCount_0f7a4 4 = .ok (.ldc_w 265, 3) := by decide +kernel
theorem k_1072 : Cond.constant RJ6 265 1431655765 ∈ bw_T := bw_m 1072 (by decide +kernel) rfl
theorem dJ6_bitCount_0f7a4_7 : decode cJ6_bitCount_0f7a4 7 = .ok (.iand, 1) := by decide +kernel
theorem dJ6_bitCount_0f7a4_8 : decode cJ6_bitCount_0f7a4 8 = .ok (.isub, 1) := by decide +kernel
theorem dJ6_bitCount_0f7a4_9 : decode cJ6_bitCount_0f7a4 9 = .ok (.istore_n 0, 1) := by decide +kernel
theorem dJ6_bitCount_0f7a4_10 : decode cJ6_bitCount_0f7a4 10 = .ok (.iload_n 0, 1) := by decide +kernel
theorem dJ6_bitCount_0f7a4_11 : decode cJ6_bitCount_0f7a4 11 = .ok (.ldc_w 266, 3) := by decide +kernel
theorem k_1073 : Cond.constant RJ6 266 858993459 ∈ bw_T := bw_m 1073 (by decide +kernel) rfl
theorem dJ6_bitCount_0f7a4_14 : decode cJ6_bitCount_0f7a4 14 = .ok (.iand, 1) := by decide +kernel
theorem dJ6_bitCount_0f7a4_15 : decode cJ6_bitCount_0f7a4 15 = .ok (.iload_n 0, 1) := by decide +kernel
theorem dJ6_bitCount_0f7a4_16 : decode cJ6_bitCount_0f7a4 16 = .ok (.iconst 2, 1) := by decide +kernel
theorem dJ6_bitCount_0f7a4_17 : decode cJ6_bitCount_0f7a4 17 = .ok (.iushr, 1) := by decide +kernel
theorem dJ6_bitCount_0f7a4_18 : decode cJ6_bitCount_0f7a4 18 = .ok (.ldc_w 266, 3) := by decide +kernel
theorem dJ6_bitCount_0f7a4_21 : decode cJ6_bitCount_0f7a4 21 = .ok (.iand, 1) := by decide +kernel
theorem dJ6_bitCount_0f7a4_22 : decode cJ6_bitCount_0f7a4 22 = .ok (.iadd, 1) := by decide +kernel
theorem dJ6_bitCount_0f7a4_23 : decode cJ6_bitCount_0f7a4 23 = .ok (.istore_n 0, 1) := by decide +kernel
theorem dJ6_bitCount_0f7a4_24 : decode cJ6_bitCount_0f7a4 24 = .ok (.iload_n 0, 1) := by decide +kernel
theorem dJ6_bitCount_0f7a4_25 : decode cJ6_bitCount_0f7a4 25 = .ok (.iload_n 0, 1) := by decide +kernel
theorem dJ6_bitCount_0f7a4_26 : decode cJ6_bitCount_0f7a4 26 = .ok (.iconst 4, 1) := by decide +kernel
theorem dJ6_bitCount_0f7a4_27 : decode cJ6_bitCount_0f7a4 27 = .ok (.iushr, 1) := by decide +kernel
theorem dJ6_bitCount_0f7a4_28 : decode cJ6_bitCount_0f7a4 28 = .ok (.iadd, 1) := by decide +kernel
theorem dJ6_bitCount_0f7a4_29 : decode cJ6_bitCount_0f7a4 29 = .ok (.ldc_w 267, 3) := by decide +kernel
theorem k_1074 : Cond.constant RJ6 267 252645135 ∈ bw_T := bw_m 1074 (by decide +kernel) rfl
theorem dJ6_bitCount_0f7a4_32 : decode cJ6_bitCount_0f7a4 32 = .ok (.iand, 1) := by decide +kernel
theorem dJ6_bitCount_0f7a4_33 : decode cJ6_bitCount_0f7a4 33 = .ok (.istore_n 0, 1) := by decide +kernel
theorem dJ6_bitCount_0f7a4_34 : decode cJ6_bitCount_0f7a4 34 = .ok (.iload_n 0, 1) := by decide +kernel
theorem dJ6_bitCount_0f7a4_35 : decode cJ6_bitCount_0f7a4 35 = .ok (.iload_n 0, 1) := by decide +kernel
theorem dJ6_bitCount_0f7a4_36 : decode cJ6_bitCount_0f7a4 36 = .ok (.bipush 8, 2) := by decide +kernel
theorem dJ6_bitCount_0f7a4_38 : decode cJ6_bitCount_0f7a4 38 = .ok (.iushr, 1) := by decide +kernel
theorem dJ6_bitCount_0f7a4_39 : decode cJ6_bitCount_0f7a4 39 = .ok (.iadd, 1) := by decide +kernel
theorem dJ6_bitCount_0f7a4_40 : decode cJ6_bitCount_0f7a4 40 = .ok (.istore_n 0, 1) := by decide +kernel
theorem dJ6_bitCount_0f7a4_41 : decode cJ6_bitCount_0f7a4 41 = .ok (.iload_n 0, 1) := by decide +kernel
theorem dJ6_bitCount_0f7a4_42 : decode cJ6_bitCount_0f7a4 42 = .ok (.iload_n 0, 1) := by decide +kernel
theorem dJ6_bitCount_0f7a4_43 : decode cJ6_bitCount_0f7a4 43 = .ok (.bipush 16, 2) := by decide +kernel
theorem dJ6_bitCount_0f7a4_45 : decode cJ6_bitCount_0f7a4 45 = .ok (.iushr, 1) := by decide +kernel
theorem dJ6_bitCount_0f7a4_46 : decode cJ6_bitCount_0f7a4 46 = .ok (.iadd, 1) := by decide +kernel
theorem dJ6_bitCount_0f7a4_47 : decode cJ6_bitCount_0f7a4 47 = .ok (.istore_n 0, 1) := by decide +kernel
theorem dJ6_bitCount_0f7a4_48 : decode cJ6_bitCount_0f7a4 48 = .ok (.iload_n 0, 1) := by decide +kernel
theorem dJ6_bitCount_0f7a4_49 : decode cJ6_bitCount_0f7a4 49 = .ok (.bipush 63, 2) := by decide +kernel
theorem dJ6_bitCount_0f7a4_51 : decode cJ6_bitCount_0f7a4 51 = .ok (.iand, 1) := by decide +kernel
theorem dJ6_bitCount_0f7a4_52 : decode cJ6_bitCount_0f7a4 52 = .ok (.ireturn, 1) := by decide +kernel
abbrev rm_J6_bitCount : Room := { frames := 0, cells := 0, slots := 0, locals := 0 }
set_option maxRecDepth 100000 in
set_option maxHeartbeats 4000000 in
theorem c_J6_bitCount {l : Launch} {E : (Nat → Prop) → State → Prop} (hO : bw_Ok E) {G : va_G} {cI cB cJ cN cW : ClassId}  : bw_Ci (S := bw_U) l yJ6_bitCount_0f7a4 (bw_ws (Cond.code yJ6_bitCount_0f7a4 cJ6_bitCount_0f7a4 1 (some .int))) rm_J6_bitCount E G (bw_kt cI cB cJ cN cW) [.int 0] [] (fun r _ => r = 0) (fun _ => []) := by
  refine bw_Ci.of (cc := cJ6_bitCount_0f7a4) (maxL := 1) (ty := .int) (by decide) rfl (Nat.le_of_ble_eq_true rfl) ?_
  intro p e s m below meth c A Q hx hb hml hts hown hin hK hA hS hP hD hE ret ls hl
  have F : CallFix p m c cJ6_bitCount_0f7a4 1 s ([.int 0] : List Value).toArray bw_T RJ6 := ⟨hx, hb, hml, hown, fun w h => hts w (List.mem_cons_of_mem _ h)⟩
  have hl : lv_has ls 1 [(0, .int 0)] := hl
  refine lv_iload_n hx hb dJ6_bitCount_0f7a4_0 rfl (lv_at hl 0 rfl) ?_
  refine lv_iload_n hx hb dJ6_bitCount_0f7a4_1 rfl (lv_at hl 0 rfl) ?_
  refine lv_iconst (v := 1) hx hb dJ6_bitCount_0f7a4_2 (by decide) ?_
  refine lv_iushr (v := 0) hx hb dJ6_bitCount_0f7a4_3 (by decide) ?_
  refine lv_ldcw hx hb hown (F.2.2.2.2 _ k_1072) dJ6_bitCount_0f7a4_4 ?_
  refine r_iand (v := 0) F dJ6_bitCount_0f7a4_7 (by decide) ?_
  refine r_isub (v := 0) F dJ6_bitCount_0f7a4_8 (by decide) ?_
  refine lv_istore_n (lv' := [(0, .int 0)]) hx hb dJ6_bitCount_0f7a4_9 rfl hl (by decide) rfl (fun ls hl => ?_)
  refine lv_iload_n hx hb dJ6_bitCount_0f7a4_10 rfl (lv_at hl 0 rfl) ?_
  refine lv_ldcw hx hb hown (F.2.2.2.2 _ k_1073) dJ6_bitCount_0f7a4_11 ?_
  refine r_iand (v := 0) F dJ6_bitCount_0f7a4_14 (by decide) ?_
  refine lv_iload_n hx hb dJ6_bitCount_0f7a4_15 rfl (lv_at hl 0 rfl) ?_
  refine lv_iconst (v := 2) hx hb dJ6_bitCount_0f7a4_16 (by decide) ?_
  refine lv_iushr (v := 0) hx hb dJ6_bitCount_0f7a4_17 (by decide) ?_
  refine lv_ldcw hx hb hown (F.2.2.2.2 _ k_1073) dJ6_bitCount_0f7a4_18 ?_
  refine r_iand (v := 0) F dJ6_bitCount_0f7a4_21 (by decide) ?_
  refine r_iadd (v := 0) F dJ6_bitCount_0f7a4_22 (by decide) ?_
  refine lv_istore_n (lv' := [(0, .int 0)]) hx hb dJ6_bitCount_0f7a4_23 rfl hl (by decide) rfl (fun ls hl => ?_)
  refine lv_iload_n hx hb dJ6_bitCount_0f7a4_24 rfl (lv_at hl 0 rfl) ?_
  refine lv_iload_n hx hb dJ6_bitCount_0f7a4_25 rfl (lv_at hl 0 rfl) ?_
  refine lv_iconst (v := 4) hx hb dJ6_bitCount_0f7a4_26 (by decide) ?_
  refine lv_iushr (v := 0) hx hb dJ6_bitCount_0f7a4_27 (by decide) ?_
  refine r_iadd (v := 0) F dJ6_bitCount_0f7a4_28 (by decide) ?_
  refine lv_ldcw hx hb hown (F.2.2.2.2 _ k_1074) dJ6_bitCount_0f7a4_29 ?_
  refine r_iand (v := 0) F dJ6_bitCount_0f7a4_32 (by decide) ?_
  refine lv_istore_n (lv' := [(0, .int 0)]) hx hb dJ6_bitCount_0f7a4_33 rfl hl (by decide) rfl (fun ls hl => ?_)
  refine lv_iload_n hx hb dJ6_bitCount_0f7a4_34 rfl (lv_at hl 0 rfl) ?_
  refine lv_iload_n hx hb dJ6_bitCount_0f7a4_35 rfl (lv_at hl 0 rfl) ?_
  refine lv_bipush (v := 8) hx hb dJ6_bitCount_0f7a4_36 (by decide) ?_
  refine lv_iushr (v := 0) hx hb dJ6_bitCount_0f7a4_38 (by decide) ?_
  refine r_iadd (v := 0) F dJ6_bitCount_0f7a4_39 (by decide) ?_
  refine lv_istore_n (lv' := [(0, .int 0)]) hx hb dJ6_bitCount_0f7a4_40 rfl hl (by decide) rfl (fun ls hl => ?_)
  refine lv_iload_n hx hb dJ6_bitCount_0f7a4_41 rfl (lv_at hl 0 rfl) ?_
  refine lv_iload_n hx hb dJ6_bitCount_0f7a4_42 rfl (lv_at hl 0 rfl) ?_
  refine lv_bipush (v := 16) hx hb dJ6_bitCount_0f7a4_43 (by decide) ?_
  refine lv_iushr (v := 0) hx hb dJ6_bitCount_0f7a4_45 (by decide) ?_
  refine r_iadd (v := 0) F dJ6_bitCount_0f7a4_46 (by decide) ?_
  refine lv_istore_n (lv' := [(0, .int 0)]) hx hb dJ6_bitCount_0f7a4_47 rfl hl (by decide) rfl (fun ls hl => ?_)
  refine lv_iload_n hx hb dJ6_bitCount_0f7a4_48 rfl (lv_at hl 0 rfl) ?_
  refine lv_bipush (v := 63) hx hb dJ6_bitCount_0f7a4_49 (by decide) ?_
  refine r_iand (v := 0) F dJ6_bitCount_0f7a4_51 (by decide) ?_
  exact ret 0 (fun _ => 0, fun _ _ => 0) _ _ _ _ _ _ rfl rfl (bw_subP (isC := []) hP rfl) (hD.sub [] (by decide) rfl) hS (Nat.le_of_ble_eq_true rfl) (Nat.le_of_ble_eq_true rfl) dJ6_bitCount_0f7a4_52
theorem dX2_wayCount_0 : decode cX2_wayCount 0 = .ok (.aload_n 0, 1) := by decide +kernel
theorem dX2_wayCount_1 : decode cX2_wayCount 1 = .ok (.invokevirtual 57, 3) := by decide +kernel
theorem k_1068 : Cond.methodLink RX2 57 yX2_wayBits ∈ bw_T := bw_m 1068 (by decide +kernel) rfl
theorem kv_X2_wayBits : bw_KV RX2 yX2_wayBits (Cond.code yX2_wayBits cX2_wayBits 3 (some .int)) := ⟨bw_m 798 (by decide +kernel) rfl, bw_m 799 (by decide +kernel) rfl, bw_m 96 (by decide +kernel) rfl, bw_m 800 (by decide +kernel) rfl⟩
theorem dX2_wayCount_4 : decode cX2_wayCount 4 = .ok (.invokestatic 61, 3) := by decide +kernel
theorem k_1069 : Cond.methodLink RX2 61 yJ6_bitCount_0f7a4 ∈ bw_T := bw_m 1069 (by decide +kernel) rfl
theorem ks_J6_bitCount_0f7a4 : bw_KS RJ6 yJ6_bitCount_0f7a4 (Cond.code yJ6_bitCount_0f7a4 cJ6_bitCount_0f7a4 1 (some .int)) := ⟨bw_m 1070 (by decide +kernel) rfl, bw_m 115 (by decide +kernel) rfl, bw_m 1071 (by decide +kernel) rfl⟩
theorem dX2_wayCount_7 : decode cX2_wayCount 7 = .ok (.ireturn, 1) := by decide +kernel
abbrev rm_X2_wayCount : Room := { frames := 2, cells := 0, slots := 0, locals := 43 }
set_option maxRecDepth 100000 in
set_option maxHeartbeats 4000000 in
theorem c_X2_wayCount {l : Launch} {E : (Nat → Prop) → State → Prop} (hO : bw_Ok E) {G : va_G} {cI cB cJ cN cW : ClassId} (b : Nat) (q : Nat → Nat) : bw_Ci (S := bw_U) l yX2_wayCount (bw_ws (Cond.code yX2_wayCount cX2_wayCount 1 (some .int))) rm_X2_wayCount E G (bw_kt cI cB cJ cN cW) [.ref b] [(b, .inr (2, [.int 0, .ref (q 40), .ref (q 41), .ref (q 42), .ref (q 43), .ref (q 44), .ref (q 45), .ref (q 46), .ref (q 47)])), ((q 47), .inl (cI, 20, .inl (fun _ => 0)))] (fun r _ => r = 0) (fun _ => []) := by
  refine bw_Ci.of (cc := cX2_wayCount) (maxL := 1) (ty := .int) (by decide) rfl (Nat.le_of_ble_eq_true rfl) ?_
  intro p e s m below meth c A Q hx hb hml hts hown hin hK hA hS hP hD hE ret ls hl
  have F : CallFix p m c cX2_wayCount 1 s ([.ref b] : List Value).toArray bw_T RX2 := ⟨hx, hb, hml, hown, fun w h => hts w (List.mem_cons_of_mem _ h)⟩
  have hl : lv_has ls 1 [(0, .ref b)] := hl
  refine lv_aload_n hx hb dX2_wayCount_0 rfl (lv_at hl 0 rfl) ?_
  refine r_callVi (As := []) (rest := []) (wr := []) F hK hP hD hS hA hO hE (c_X2_wayBits hO b q) k_1068 kv_X2_wayBits 0 rfl (by decide +kernel) ⟨Nat.le_of_ble_eq_true rfl, Nat.le_of_ble_eq_true rfl⟩ [0, 1] [] rfl rfl (by decide) (by decide) (by decide) 0 2 rfl rfl rfl hl.1 rfl (Nat.le_of_ble_eq_true rfl) dX2_wayCount_1 ⟨Nat.le_of_ble_eq_true rfl, Nat.le_of_ble_eq_true rfl⟩ (w1 := fun u1 => []) (fun _ => rfl) (fun r2 u1 H locs hp hP hD hS => ?_)
  subst hp
  refine r_callXi (As := [.int 0]) (rest := []) F hK hP hD hS hA hO hE (c_J6_bitCount hO) k_1069 ks_J6_bitCount_0f7a4 1 rfl (by decide +kernel) ⟨Nat.le_of_ble_eq_true rfl, Nat.le_of_ble_eq_true rfl⟩ [] rfl (by decide) hl.1 rfl (Nat.le_of_ble_eq_true rfl) dX2_wayCount_4 ⟨Nat.le_of_ble_eq_true rfl, Nat.le_of_ble_eq_true rfl⟩ (fun r3 u4 H locs hp hP hD hS => ?_)
  subst hp
  exact ret 0 (fun _ => 0, fun _ _ => 0) _ _ _ _ _ _ rfl rfl (bw_subP (isC := []) hP rfl) (hD.sub [] (by decide) rfl) hS (Nat.le_of_ble_eq_true rfl) (Nat.le_of_ble_eq_true rfl) dX2_wayCount_7
theorem dX8_size_0 : decode cX8_size 0 = .ok (.iload_n 1, 1) := by decide +kernel
theorem dX8_size_1 : decode cX8_size 1 = .ok (.tableswitch 99 0 6 #[43, 51, 59, 67, 75, 83, 91], 43) := by decide +kernel
theorem dX8_size_100 : decode cX8_size 100 = .ok (.iconst (-1), 1) := by decide +kernel
theorem dX8_size_101 : decode cX8_size 101 = .ok (.ireturn, 1) := by decide +kernel
theorem dX8_size_44 : decode cX8_size 44 = .ok (.aload_n 0, 1) := by decide +kernel
theorem dX8_size_45 : decode cX8_size 45 = .ok (.getfield 31, 3) := by decide +kernel
theorem dX8_size_48 : decode cX8_size 48 = .ok (.getfield 122, 3) := by decide +kernel
theorem k_145 : Cond.fieldLink RX8 122 "BurntWays$Net" "lines" "I" ∈ bw_T := bw_m 145 (by decide +kernel) rfl
theorem dX8_size_51 : decode cX8_size 51 = .ok (.ireturn, 1) := by decide +kernel
theorem dX8_size_52 : decode cX8_size 52 = .ok (.aload_n 0, 1) := by decide +kernel
theorem dX8_size_53 : decode cX8_size 53 = .ok (.getfield 31, 3) := by decide +kernel
theorem dX8_size_56 : decode cX8_size 56 = .ok (.invokevirtual 312, 3) := by decide +kernel
theorem k_1060 : Cond.methodLink RX8 312 yX2_toldLines ∈ bw_T := bw_m 1060 (by decide +kernel) rfl
theorem kv_X2_toldLines : bw_KV RX2 yX2_toldLines (Cond.code yX2_toldLines cX2_toldLines 3 (some .int)) := ⟨bw_m 1061 (by decide +kernel) rfl, bw_m 1062 (by decide +kernel) rfl, bw_m 96 (by decide +kernel) rfl, bw_m 1063 (by decide +kernel) rfl⟩
theorem dX8_size_59 : decode cX8_size 59 = .ok (.ireturn, 1) := by decide +kernel
theorem dX8_size_60 : decode cX8_size 60 = .ok (.aload_n 0, 1) := by decide +kernel
theorem dX8_size_61 : decode cX8_size 61 = .ok (.getfield 31, 3) := by decide +kernel
theorem dX8_size_64 : decode cX8_size 64 = .ok (.invokevirtual 315, 3) := by decide +kernel
theorem k_1064 : Cond.methodLink RX8 315 yX2_wayCount ∈ bw_T := bw_m 1064 (by decide +kernel) rfl
theorem kv_X2_wayCount : bw_KV RX2 yX2_wayCount (Cond.code yX2_wayCount cX2_wayCount 1 (some .int)) := ⟨bw_m 1065 (by decide +kernel) rfl, bw_m 1066 (by decide +kernel) rfl, bw_m 96 (by decide +kernel) rfl, bw_m 1067 (by decide +kernel) rfl⟩
theorem dX8_size_67 : decode cX8_size 67 = .ok (.ireturn, 1) := by decide +kernel
theorem dX8_size_68 : decode cX8_size 68 = .ok (.aload_n 0, 1) := by decide +kernel
theorem dX8_size_69 : decode cX8_size 69 = .ok (.getfield 40, 3) := by decide +kernel
theorem dX8_size_72 : decode cX8_size 72 = .ok (.getfield 225, 3) := by decide +kernel
theorem k_204 : Cond.fieldLink RX8 225 "BurntWays$Wants" "count" "I" ∈ bw_T := bw_m 204 (by decide +kernel) rfl
theorem dX8_size_75 : decode cX8_size 75 = .ok (.ireturn, 1) := by decide +kernel
theorem dX8_size_76 : decode cX8_size 76 = .ok (.aload_n 0, 1) := by decide +kernel
theorem dX8_size_77 : decode cX8_size 77 = .ok (.getfield 81, 3) := by decide +kernel
theorem dX8_size_80 : decode cX8_size 80 = .ok (.getfield 109, 3) := by decide +kernel
theorem dX8_size_83 : decode cX8_size 83 = .ok (.ireturn, 1) := by decide +kernel
theorem dX8_size_84 : decode cX8_size 84 = .ok (.aload_n 0, 1) := by decide +kernel
theorem dX8_size_85 : decode cX8_size 85 = .ok (.getfield 20, 3) := by decide +kernel
theorem dX8_size_88 : decode cX8_size 88 = .ok (.getfield 85, 3) := by decide +kernel
theorem dX8_size_91 : decode cX8_size 91 = .ok (.ireturn, 1) := by decide +kernel
theorem dX8_size_92 : decode cX8_size 92 = .ok (.aload_n 0, 1) := by decide +kernel
theorem dX8_size_93 : decode cX8_size 93 = .ok (.getfield 31, 3) := by decide +kernel
theorem dX8_size_96 : decode cX8_size 96 = .ok (.invokevirtual 318, 3) := by decide +kernel
theorem k_1075 : Cond.methodLink RX8 318 yX2_laidInAll ∈ bw_T := bw_m 1075 (by decide +kernel) rfl
theorem kv_X2_laidInAll : bw_KV RX2 yX2_laidInAll (Cond.code yX2_laidInAll cX2_laidInAll 3 (some .int)) := ⟨bw_m 903 (by decide +kernel) rfl, bw_m 904 (by decide +kernel) rfl, bw_m 96 (by decide +kernel) rfl, bw_m 905 (by decide +kernel) rfl⟩
theorem dX8_size_99 : decode cX8_size 99 = .ok (.ireturn, 1) := by decide +kernel
abbrev rm_X8_size : Room := { frames := 3, cells := 0, slots := 0, locals := 63 }
set_option maxRecDepth 100000 in
set_option maxHeartbeats 4000000 in
theorem c_X8_size {l : Launch} {E : (Nat → Prop) → State → Prop} (hO : bw_Ok E) {G : va_G} {cI cB cJ cN cW : ClassId} (b : Nat) (q : Nat → Nat) (w : Int32) : bw_Ci (S := bw_U) l yX8_size (bw_ws (Cond.code yX8_size cX8_size 2 (some .int))) rm_X8_size E G (bw_kt cI cB cJ cN cW) [.ref b, .int w] [(b, .inr (8, [.int 0, .int 0, .ref (q 0), .ref (q 1), .ref (q 2), .ref (q 3), .ref (q 4), .ref (q 5), .ref (q 6), .ref (q 7), .ref (q 8), .ref (q 9), .ref (q 10), .ref (q 11)])), ((q 0), .inr (3, [.ref (q 20), .int 0, .ref (q 21), .ref (q 22), .int 0, .int 0, .ref (q 23), .ref (q 24), .int 0, .int 24, .int 0, .int 0, .long 0, .int 0])), ((q 2), .inr (2, [.int 0, .ref (q 40), .ref (q 41), .ref (q 42), .ref (q 43), .ref (q 44), .ref (q 45), .ref (q 46), .ref (q 47)])), ((q 47), .inl (cI, 20, .inl (fun _ => 0))), ((q 4), .inr (7, [.int 0, .ref (q 50)])), ((q 11), .inr (1, [.int 0, .ref (q 51), .ref (q 52)]))] (fun r _ => r = bw_size w) (fun _ => []) := by
  refine bw_Ci.of (cc := cX8_size) (maxL := 2) (ty := .int) (by decide) rfl (Nat.le_of_ble_eq_true rfl) ?_
  intro p e s m below meth c A Q hx hb hml hts hown hin hK hA hS hP hD hE ret ls hl
  have F : CallFix p m c cX8_size 2 s ([.ref b, .int w] : List Value).toArray bw_T RX8 := ⟨hx, hb, hml, hown, fun w h => hts w (List.mem_cons_of_mem _ h)⟩
  have hl : lv_has ls 2 [(0, .ref b), (1, .int w)] := hl
  rcases bw_sw w with h1 | rfl | rfl | rfl | rfl | rfl | rfl | rfl
  · refine lv_iload_n hx hb dX8_size_0 rfl (lv_at hl 1 rfl) ?_
    refine lv_tableOut (tgt := 100) hx hb dX8_size_1 h1 (by decide) ?_
    refine lv_iconst (v := (-1)) hx hb dX8_size_100 (by decide) ?_
    exact ret (-1) (fun _ => 0, fun _ _ => 0) _ _ _ _ _ _ rfl (bw_size_out h1).symm (bw_subP (isC := []) hP rfl) (hD.sub [] (by decide) rfl) hS (Nat.le_of_ble_eq_true rfl) (Nat.le_of_ble_eq_true rfl) dX8_size_101
  · refine lv_iload_n hx hb dX8_size_0 rfl (lv_at hl 1 rfl) ?_
    refine lv_tableIn (off := 43) (tgt := 44) hx hb dX8_size_1 (by decide) (by decide) (by decide) (by decide) ?_
    refine lv_aload_n hx hb dX8_size_44 rfl (lv_at hl 0 rfl) ?_
    refine r_get F hK hP 0 4 rfl rfl in_X8 (by decide) k_499 rfl dX8_size_45 ?_
    refine r_get F hK hP 2 0 rfl rfl in_X2 (by decide) k_145 rfl dX8_size_48 ?_
    exact ret 0 (fun _ => 0, fun _ _ => 0) _ _ _ _ _ _ rfl (by decide) (bw_subP (isC := []) hP rfl) (hD.sub [] (by decide) rfl) hS (Nat.le_of_ble_eq_true rfl) (Nat.le_of_ble_eq_true rfl) dX8_size_51
  · refine lv_iload_n hx hb dX8_size_0 rfl (lv_at hl 1 rfl) ?_
    refine lv_tableIn (off := 51) (tgt := 52) hx hb dX8_size_1 (by decide) (by decide) (by decide) (by decide) ?_
    refine lv_aload_n hx hb dX8_size_52 rfl (lv_at hl 0 rfl) ?_
    refine r_get F hK hP 0 4 rfl rfl in_X8 (by decide) k_499 rfl dX8_size_53 ?_
    refine r_callVi (As := []) (rest := []) (wr := [(b, .inr (8, [.int 0, .int 0, .ref (q 0), .ref (q 1), .ref (q 2), .ref (q 3), .ref (q 4), .ref (q 5), .ref (q 6), .ref (q 7), .ref (q 8), .ref (q 9), .ref (q 10), .ref (q 11)])), ((q 0), .inr (3, [.ref (q 20), .int 0, .ref (q 21), .ref (q 22), .int 0, .int 0, .ref (q 23), .ref (q 24), .int 0, .int 24, .int 0, .int 0, .long 0, .int 0])), ((q 47), .inl (cI, 20, .inl (fun _ => 0))), ((q 4), .inr (7, [.int 0, .ref (q 50)])), ((q 11), .inr (1, [.int 0, .ref (q 51), .ref (q 52)]))]) F hK hP hD hS hA hO hE (c_X2_toldLines hO (q 2) q) k_1060 kv_X2_toldLines 0 rfl (by decide +kernel) ⟨Nat.le_of_ble_eq_true rfl, Nat.le_of_ble_eq_true rfl⟩ [2] [0, 1, 3, 4, 5] rfl rfl (by decide) (by decide) (by decide) 0 2 rfl rfl rfl hl.1 rfl (Nat.le_of_ble_eq_true rfl) dX8_size_56 ⟨Nat.le_of_ble_eq_true rfl, Nat.le_of_ble_eq_true rfl⟩ (w1 := fun u1 => [(b, .inr (8, [.int 0, .int 0, .ref (q 0), .ref (q 1), .ref (q 2), .ref (q 3), .ref (q 4), .ref (q 5), .ref (q 6), .ref (q 7), .ref (q 8), .ref (q 9), .ref (q 10), .ref (q 11)])), ((q 0), .inr (3, [.ref (q 20), .int 0, .ref (q 21), .ref (q 22), .int 0, .int 0, .ref (q 23), .ref (q 24), .int 0, .int 24, .int 0, .int 0, .long 0, .int 0])), ((q 47), .inl (cI, 20, .inl (fun _ => 0))), ((q 4), .inr (7, [.int 0, .ref (q 50)])), ((q 11), .inr (1, [.int 0, .ref (q 51), .ref (q 52)]))]) (fun _ => rfl) (fun r2 u1 H locs hp hP hD hS => ?_)
    subst hp
    exact ret 0 (fun _ => 0, fun _ _ => 0) _ _ _ _ _ _ rfl (by decide) (bw_subP (isC := []) hP rfl) (hD.sub [] (by decide) rfl) hS (Nat.le_of_ble_eq_true rfl) (Nat.le_of_ble_eq_true rfl) dX8_size_59
  · refine lv_iload_n hx hb dX8_size_0 rfl (lv_at hl 1 rfl) ?_
    refine lv_tableIn (off := 59) (tgt := 60) hx hb dX8_size_1 (by decide) (by decide) (by decide) (by decide) ?_
    refine lv_aload_n hx hb dX8_size_60 rfl (lv_at hl 0 rfl) ?_
    refine r_get F hK hP 0 4 rfl rfl in_X8 (by decide) k_499 rfl dX8_size_61 ?_
    refine r_callVi (As := []) (rest := []) (wr := [(b, .inr (8, [.int 0, .int 0, .ref (q 0), .ref (q 1), .ref (q 2), .ref (q 3), .ref (q 4), .ref (q 5), .ref (q 6), .ref (q 7), .ref (q 8), .ref (q 9), .ref (q 10), .ref (q 11)])), ((q 0), .inr (3, [.ref (q 20), .int 0, .ref (q 21), .ref (q 22), .int 0, .int 0, .ref (q 23), .ref (q 24), .int 0, .int 24, .int 0, .int 0, .long 0, .int 0])), ((q 4), .inr (7, [.int 0, .ref (q 50)])), ((q 11), .inr (1, [.int 0, .ref (q 51), .ref (q 52)]))]) F hK hP hD hS hA hO hE (c_X2_wayCount hO (q 2) q) k_1064 kv_X2_wayCount 0 rfl (by decide +kernel) ⟨Nat.le_of_ble_eq_true rfl, Nat.le_of_ble_eq_true rfl⟩ [2, 3] [0, 1, 4, 5] rfl rfl (by decide) (by decide) (by decide) 0 2 rfl rfl rfl hl.1 rfl (Nat.le_of_ble_eq_true rfl) dX8_size_64 ⟨Nat.le_of_ble_eq_true rfl, Nat.le_of_ble_eq_true rfl⟩ (w1 := fun u1 => [(b, .inr (8, [.int 0, .int 0, .ref (q 0), .ref (q 1), .ref (q 2), .ref (q 3), .ref (q 4), .ref (q 5), .ref (q 6), .ref (q 7), .ref (q 8), .ref (q 9), .ref (q 10), .ref (q 11)])), ((q 0), .inr (3, [.ref (q 20), .int 0, .ref (q 21), .ref (q 22), .int 0, .int 0, .ref (q 23), .ref (q 24), .int 0, .int 24, .int 0, .int 0, .long 0, .int 0])), ((q 4), .inr (7, [.int 0, .ref (q 50)])), ((q 11), .inr (1, [.int 0, .ref (q 51), .ref (q 52)]))]) (fun _ => rfl) (fun r2 u1 H locs hp hP hD hS => ?_)
    subst hp
    exact ret 0 (fun _ => 0, fun _ _ => 0) _ _ _ _ _ _ rfl (by decide) (bw_subP (isC := []) hP rfl) (hD.sub [] (by decide) rfl) hS (Nat.le_of_ble_eq_true rfl) (Nat.le_of_ble_eq_true rfl) dX8_size_67
  · refine lv_iload_n hx hb dX8_size_0 rfl (lv_at hl 1 rfl) ?_
    refine lv_tableIn (off := 67) (tgt := 68) hx hb dX8_size_1 (by decide) (by decide) (by decide) (by decide) ?_
    refine lv_aload_n hx hb dX8_size_68 rfl (lv_at hl 0 rfl) ?_
    refine r_get F hK hP 0 6 rfl rfl in_X8 (by decide) k_501 rfl dX8_size_69 ?_
    refine r_get F hK hP 4 0 rfl rfl in_X7 (by decide) k_204 rfl dX8_size_72 ?_
    exact ret 0 (fun _ => 0, fun _ _ => 0) _ _ _ _ _ _ rfl (by decide) (bw_subP (isC := []) hP rfl) (hD.sub [] (by decide) rfl) hS (Nat.le_of_ble_eq_true rfl) (Nat.le_of_ble_eq_true rfl) dX8_size_75
  · refine lv_iload_n hx hb dX8_size_0 rfl (lv_at hl 1 rfl) ?_
    refine lv_tableIn (off := 75) (tgt := 76) hx hb dX8_size_1 (by decide) (by decide) (by decide) (by decide) ?_
    refine lv_aload_n hx hb dX8_size_76 rfl (lv_at hl 0 rfl) ?_
    refine r_get F hK hP 0 13 rfl rfl in_X8 (by decide) k_508 rfl dX8_size_77 ?_
    refine r_get F hK hP 5 0 rfl rfl in_X1 (by decide) k_483 rfl dX8_size_80 ?_
    exact ret 0 (fun _ => 0, fun _ _ => 0) _ _ _ _ _ _ rfl (by decide) (bw_subP (isC := []) hP rfl) (hD.sub [] (by decide) rfl) hS (Nat.le_of_ble_eq_true rfl) (Nat.le_of_ble_eq_true rfl) dX8_size_83
  · refine lv_iload_n hx hb dX8_size_0 rfl (lv_at hl 1 rfl) ?_
    refine lv_tableIn (off := 83) (tgt := 84) hx hb dX8_size_1 (by decide) (by decide) (by decide) (by decide) ?_
    refine lv_aload_n hx hb dX8_size_84 rfl (lv_at hl 0 rfl) ?_
    refine r_get F hK hP 0 2 rfl rfl in_X8 (by decide) k_497 rfl dX8_size_85 ?_
    refine r_get F hK hP 1 1 rfl rfl in_X3 (by decide) k_263 rfl dX8_size_88 ?_
    exact ret 0 (fun _ => 0, fun _ _ => 0) _ _ _ _ _ _ rfl (by decide) (bw_subP (isC := []) hP rfl) (hD.sub [] (by decide) rfl) hS (Nat.le_of_ble_eq_true rfl) (Nat.le_of_ble_eq_true rfl) dX8_size_91
  · refine lv_iload_n hx hb dX8_size_0 rfl (lv_at hl 1 rfl) ?_
    refine lv_tableIn (off := 91) (tgt := 92) hx hb dX8_size_1 (by decide) (by decide) (by decide) (by decide) ?_
    refine lv_aload_n hx hb dX8_size_92 rfl (lv_at hl 0 rfl) ?_
    refine r_get F hK hP 0 4 rfl rfl in_X8 (by decide) k_499 rfl dX8_size_93 ?_
    refine r_callVi (As := []) (rest := []) (wr := [(b, .inr (8, [.int 0, .int 0, .ref (q 0), .ref (q 1), .ref (q 2), .ref (q 3), .ref (q 4), .ref (q 5), .ref (q 6), .ref (q 7), .ref (q 8), .ref (q 9), .ref (q 10), .ref (q 11)])), ((q 0), .inr (3, [.ref (q 20), .int 0, .ref (q 21), .ref (q 22), .int 0, .int 0, .ref (q 23), .ref (q 24), .int 0, .int 24, .int 0, .int 0, .long 0, .int 0])), ((q 4), .inr (7, [.int 0, .ref (q 50)])), ((q 11), .inr (1, [.int 0, .ref (q 51), .ref (q 52)]))]) F hK hP hD hS hA hO hE (c_X2_laidInAll hO (q 2) q) k_1075 kv_X2_laidInAll 0 rfl (by decide +kernel) ⟨Nat.le_of_ble_eq_true rfl, Nat.le_of_ble_eq_true rfl⟩ [2, 3] [0, 1, 4, 5] rfl rfl (by decide) (by decide) (by decide) 0 2 rfl rfl rfl hl.1 rfl (Nat.le_of_ble_eq_true rfl) dX8_size_96 ⟨Nat.le_of_ble_eq_true rfl, Nat.le_of_ble_eq_true rfl⟩ (w1 := fun u1 => [(b, .inr (8, [.int 0, .int 0, .ref (q 0), .ref (q 1), .ref (q 2), .ref (q 3), .ref (q 4), .ref (q 5), .ref (q 6), .ref (q 7), .ref (q 8), .ref (q 9), .ref (q 10), .ref (q 11)])), ((q 0), .inr (3, [.ref (q 20), .int 0, .ref (q 21), .ref (q 22), .int 0, .int 0, .ref (q 23), .ref (q 24), .int 0, .int 24, .int 0, .int 0, .long 0, .int 0])), ((q 4), .inr (7, [.int 0, .ref (q 50)])), ((q 11), .inr (1, [.int 0, .ref (q 51), .ref (q 52)]))]) (fun _ => rfl) (fun r2 u1 H locs hp hP hD hS => ?_)
    subst hp
    exact ret 0 (fun _ => 0, fun _ _ => 0) _ _ _ _ _ _ rfl (by decide) (bw_subP (isC := []) hP rfl) (hD.sub [] (by decide) rfl) hS (Nat.le_of_ble_eq_true rfl) (Nat.le_of_ble_eq_true rfl) dX8_size_99
end
