section
-- ===== PART A: goes FIRST, ahead of the names: the tables' words, and 'selects' of the private methods out of them =====
/-- a private method of a class that the tables say can be made, by its rows of tables_1 -/
def lw_okq (q : MethodName × Nat) : Prop := (q.1.cls ≠ "java/lang/invoke/MethodHandle" ∧ q.1.cls ≠ "java/lang/invoke/VarHandle") ∧ Cond.instantiable q.1.cls q.2 ∈ tables_1 ∧ Cond.privateMethod q.1 ∈ tables_1 ∧ Cond.instanceMethod q.1 ∈ tables_1
theorem lw_p0 : lw_okq (⟨"QuarterWalks$Tape", "partEnd", "(I)I"⟩, 7) := ⟨⟨by decide +kernel, by decide +kernel⟩, List.mem_of_getElem? (i := 38) (by decide +kernel), List.mem_of_getElem? (i := 345) (by decide +kernel), List.mem_of_getElem? (i := 346) (by decide +kernel)⟩
theorem lw_p1 : lw_okq (⟨"QuarterWalks$Tape", "isLetter", "(I)Z"⟩, 7) := ⟨⟨by decide +kernel, by decide +kernel⟩, List.mem_of_getElem? (i := 38) (by decide +kernel), List.mem_of_getElem? (i := 349) (by decide +kernel), List.mem_of_getElem? (i := 350) (by decide +kernel)⟩
theorem lw_p2 : lw_okq (⟨"QuarterWalks$Tape", "isDigit", "(I)Z"⟩, 7) := ⟨⟨by decide +kernel, by decide +kernel⟩, List.mem_of_getElem? (i := 38) (by decide +kernel), List.mem_of_getElem? (i := 354) (by decide +kernel), List.mem_of_getElem? (i := 355) (by decide +kernel)⟩
theorem lw_p3 : lw_okq (⟨"QuarterWalks$Tape", "takes", "(II)Z"⟩, 7) := ⟨⟨by decide +kernel, by decide +kernel⟩, List.mem_of_getElem? (i := 38) (by decide +kernel), List.mem_of_getElem? (i := 361) (by decide +kernel), List.mem_of_getElem? (i := 362) (by decide +kernel)⟩
theorem lw_p4 : lw_okq (⟨"QuarterWalks$Tape", "takesFrom", "(II)Z"⟩, 7) := ⟨⟨by decide +kernel, by decide +kernel⟩, List.mem_of_getElem? (i := 38) (by decide +kernel), List.mem_of_getElem? (i := 365) (by decide +kernel), List.mem_of_getElem? (i := 366) (by decide +kernel)⟩
theorem lw_p5 : lw_okq (⟨"QuarterWalks$Tape", "takesStep", "(II)Z"⟩, 7) := ⟨⟨by decide +kernel, by decide +kernel⟩, List.mem_of_getElem? (i := 38) (by decide +kernel), List.mem_of_getElem? (i := 369) (by decide +kernel), List.mem_of_getElem? (i := 370) (by decide +kernel)⟩
theorem lw_p6 : lw_okq (⟨"QuarterWalks$Tape", "stepNamed", "(II)I"⟩, 7) := ⟨⟨by decide +kernel, by decide +kernel⟩, List.mem_of_getElem? (i := 38) (by decide +kernel), List.mem_of_getElem? (i := 373) (by decide +kernel), List.mem_of_getElem? (i := 374) (by decide +kernel)⟩
theorem lw_p7 : lw_okq (⟨"QuarterWalks$Tape", "takesNumber", "(I)Z"⟩, 7) := ⟨⟨by decide +kernel, by decide +kernel⟩, List.mem_of_getElem? (i := 38) (by decide +kernel), List.mem_of_getElem? (i := 417) (by decide +kernel), List.mem_of_getElem? (i := 418) (by decide +kernel)⟩
theorem lw_p8 : lw_okq (⟨"QuarterWalks", "refuse", "(I)I"⟩, 10) := ⟨⟨by decide +kernel, by decide +kernel⟩, List.mem_of_getElem? (i := 30) (by decide +kernel), List.mem_of_getElem? (i := 425) (by decide +kernel), List.mem_of_getElem? (i := 426) (by decide +kernel)⟩
theorem lw_p9 : lw_okq (⟨"QuarterWalks$Book", "remember", "()V"⟩, 6) := ⟨⟨by decide +kernel, by decide +kernel⟩, List.mem_of_getElem? (i := 68) (by decide +kernel), List.mem_of_getElem? (i := 487) (by decide +kernel), List.mem_of_getElem? (i := 488) (by decide +kernel)⟩
theorem lw_p10 : lw_okq (⟨"QuarterWalks", "addMoved", "(LQuarterWalks$StepSet;[III)I"⟩, 10) := ⟨⟨by decide +kernel, by decide +kernel⟩, List.mem_of_getElem? (i := 30) (by decide +kernel), List.mem_of_getElem? (i := 515) (by decide +kernel), List.mem_of_getElem? (i := 516) (by decide +kernel)⟩
theorem lw_p11 : lw_okq (⟨"QuarterWalks$Grid", "wipe", "()V"⟩, 11) := ⟨⟨by decide +kernel, by decide +kernel⟩, List.mem_of_getElem? (i := 112) (by decide +kernel), List.mem_of_getElem? (i := 573) (by decide +kernel), List.mem_of_getElem? (i := 574) (by decide +kernel)⟩
theorem lw_p12 : lw_okq (⟨"QuarterWalks$Grid", "cell", "(II)I"⟩, 11) := ⟨⟨by decide +kernel, by decide +kernel⟩, List.mem_of_getElem? (i := 112) (by decide +kernel), List.mem_of_getElem? (i := 577) (by decide +kernel), List.mem_of_getElem? (i := 578) (by decide +kernel)⟩
theorem lw_p13 : lw_okq (⟨"QuarterWalks$Grid", "takeSteps", "(LQuarterWalks$StepSet;)V"⟩, 11) := ⟨⟨by decide +kernel, by decide +kernel⟩, List.mem_of_getElem? (i := 112) (by decide +kernel), List.mem_of_getElem? (i := 581) (by decide +kernel), List.mem_of_getElem? (i := 582) (by decide +kernel)⟩
theorem lw_p14 : lw_okq (⟨"QuarterWalks$Grid", "widen", "()V"⟩, 11) := ⟨⟨by decide +kernel, by decide +kernel⟩, List.mem_of_getElem? (i := 112) (by decide +kernel), List.mem_of_getElem? (i := 597) (by decide +kernel), List.mem_of_getElem? (i := 598) (by decide +kernel)⟩
theorem lw_p15 : lw_okq (⟨"QuarterWalks$Grid", "gather", "()V"⟩, 11) := ⟨⟨by decide +kernel, by decide +kernel⟩, List.mem_of_getElem? (i := 112) (by decide +kernel), List.mem_of_getElem? (i := 603) (by decide +kernel), List.mem_of_getElem? (i := 604) (by decide +kernel)⟩
def lw_privs_1 : List (MethodName × Nat) := [(⟨"QuarterWalks$Tape", "partEnd", "(I)I"⟩, 7), (⟨"QuarterWalks$Tape", "isLetter", "(I)Z"⟩, 7), (⟨"QuarterWalks$Tape", "isDigit", "(I)Z"⟩, 7), (⟨"QuarterWalks$Tape", "takes", "(II)Z"⟩, 7), (⟨"QuarterWalks$Tape", "takesFrom", "(II)Z"⟩, 7), (⟨"QuarterWalks$Tape", "takesStep", "(II)Z"⟩, 7), (⟨"QuarterWalks$Tape", "stepNamed", "(II)I"⟩, 7), (⟨"QuarterWalks$Tape", "takesNumber", "(I)Z"⟩, 7), (⟨"QuarterWalks", "refuse", "(I)I"⟩, 10), (⟨"QuarterWalks$Book", "remember", "()V"⟩, 6), (⟨"QuarterWalks", "addMoved", "(LQuarterWalks$StepSet;[III)I"⟩, 10), (⟨"QuarterWalks$Grid", "wipe", "()V"⟩, 11), (⟨"QuarterWalks$Grid", "cell", "(II)I"⟩, 11), (⟨"QuarterWalks$Grid", "takeSteps", "(LQuarterWalks$StepSet;)V"⟩, 11), (⟨"QuarterWalks$Grid", "widen", "()V"⟩, 11), (⟨"QuarterWalks$Grid", "gather", "()V"⟩, 11)]
theorem lw_r1 : ∀ q ∈ lw_privs_1, lw_okq q := List.forall_mem_cons.mpr ⟨lw_p0, List.forall_mem_cons.mpr ⟨lw_p1, List.forall_mem_cons.mpr ⟨lw_p2, List.forall_mem_cons.mpr ⟨lw_p3, List.forall_mem_cons.mpr ⟨lw_p4, List.forall_mem_cons.mpr ⟨lw_p5, List.forall_mem_cons.mpr ⟨lw_p6, List.forall_mem_cons.mpr ⟨lw_p7, List.forall_mem_cons.mpr ⟨lw_p8, List.forall_mem_cons.mpr ⟨lw_p9, List.forall_mem_cons.mpr ⟨lw_p10, List.forall_mem_cons.mpr ⟨lw_p11, List.forall_mem_cons.mpr ⟨lw_p12, List.forall_mem_cons.mpr ⟨lw_p13, List.forall_mem_cons.mpr ⟨lw_p14, List.forall_mem_cons.mpr ⟨lw_p15, fun _ h => absurd h List.not_mem_nil⟩⟩⟩⟩⟩⟩⟩⟩⟩⟩⟩⟩⟩⟩⟩⟩
theorem lw_p16 : lw_okq (⟨"QuarterWalks$Grid", "settled", "(J)J"⟩, 11) := ⟨⟨by decide +kernel, by decide +kernel⟩, List.mem_of_getElem? (i := 112) (by decide +kernel), List.mem_of_getElem? (i := 607) (by decide +kernel), List.mem_of_getElem? (i := 608) (by decide +kernel)⟩
theorem lw_p17 : lw_okq (⟨"QuarterWalks", "term", "(LQuarterWalks$StepSet;II)I"⟩, 10) := ⟨⟨by decide +kernel, by decide +kernel⟩, List.mem_of_getElem? (i := 30) (by decide +kernel), List.mem_of_getElem? (i := 630) (by decide +kernel), List.mem_of_getElem? (i := 631) (by decide +kernel)⟩
theorem lw_p18 : lw_okq (⟨"QuarterWalks", "terms", "(LQuarterWalks$StepSet;)[I"⟩, 10) := ⟨⟨by decide +kernel, by decide +kernel⟩, List.mem_of_getElem? (i := 30) (by decide +kernel), List.mem_of_getElem? (i := 634) (by decide +kernel), List.mem_of_getElem? (i := 635) (by decide +kernel)⟩
theorem lw_p19 : lw_okq (⟨"QuarterWalks$Grid", "alongLine", "(II)I"⟩, 11) := ⟨⟨by decide +kernel, by decide +kernel⟩, List.mem_of_getElem? (i := 112) (by decide +kernel), List.mem_of_getElem? (i := 651) (by decide +kernel), List.mem_of_getElem? (i := 652) (by decide +kernel)⟩
theorem lw_p20 : lw_okq (⟨"QuarterWalks$Matrix", "clearsBy", "(II)Z"⟩, 4) := ⟨⟨by decide +kernel, by decide +kernel⟩, List.mem_of_getElem? (i := 212) (by decide +kernel), List.mem_of_getElem? (i := 707) (by decide +kernel), List.mem_of_getElem? (i := 708) (by decide +kernel)⟩
theorem lw_p21 : lw_okq (⟨"QuarterWalks$Matrix", "clear", "([J[JI)V"⟩, 4) := ⟨⟨by decide +kernel, by decide +kernel⟩, List.mem_of_getElem? (i := 212) (by decide +kernel), List.mem_of_getElem? (i := 719) (by decide +kernel), List.mem_of_getElem? (i := 720) (by decide +kernel)⟩
theorem lw_p22 : lw_okq (⟨"QuarterWalks$Grid", "weightOut", "(LQuarterWalks$StepSet;II)I"⟩, 11) := ⟨⟨by decide +kernel, by decide +kernel⟩, List.mem_of_getElem? (i := 112) (by decide +kernel), List.mem_of_getElem? (i := 749) (by decide +kernel), List.mem_of_getElem? (i := 750) (by decide +kernel)⟩
theorem lw_p23 : lw_okq (⟨"QuarterWalks$Ways", "cell", "(II)I"⟩, 4) := ⟨⟨by decide +kernel, by decide +kernel⟩, List.mem_of_getElem? (i := 176) (by decide +kernel), List.mem_of_getElem? (i := 776) (by decide +kernel), List.mem_of_getElem? (i := 777) (by decide +kernel)⟩
theorem lw_p24 : lw_okq (⟨"QuarterWalks$Ways", "waysOn", "(LQuarterWalks$StepSet;III)I"⟩, 4) := ⟨⟨by decide +kernel, by decide +kernel⟩, List.mem_of_getElem? (i := 176) (by decide +kernel), List.mem_of_getElem? (i := 780) (by decide +kernel), List.mem_of_getElem? (i := 781) (by decide +kernel)⟩
theorem lw_p25 : lw_okq (⟨"QuarterWalks$Ways", "ways", "(III)I"⟩, 4) := ⟨⟨by decide +kernel, by decide +kernel⟩, List.mem_of_getElem? (i := 176) (by decide +kernel), List.mem_of_getElem? (i := 786) (by decide +kernel), List.mem_of_getElem? (i := 787) (by decide +kernel)⟩
theorem lw_p26 : lw_okq (⟨"QuarterWalks", "isHalfEnough", "(LQuarterWalks$StepSet;I)Z"⟩, 10) := ⟨⟨by decide +kernel, by decide +kernel⟩, List.mem_of_getElem? (i := 30) (by decide +kernel), List.mem_of_getElem? (i := 916) (by decide +kernel), List.mem_of_getElem? (i := 917) (by decide +kernel)⟩
theorem lw_p27 : lw_okq (⟨"QuarterWalks", "readies", "(IIIII)Z"⟩, 10) := ⟨⟨by decide +kernel, by decide +kernel⟩, List.mem_of_getElem? (i := 30) (by decide +kernel), List.mem_of_getElem? (i := 932) (by decide +kernel), List.mem_of_getElem? (i := 933) (by decide +kernel)⟩
theorem lw_p28 : lw_okq (⟨"QuarterWalks$Guess", "solve", "(II)Z"⟩, 4) := ⟨⟨by decide +kernel, by decide +kernel⟩, List.mem_of_getElem? (i := 233) (by decide +kernel), List.mem_of_getElem? (i := 954) (by decide +kernel), List.mem_of_getElem? (i := 955) (by decide +kernel)⟩
theorem lw_p29 : lw_okq (⟨"QuarterWalks$Guess", "factor", "(III)I"⟩, 4) := ⟨⟨by decide +kernel, by decide +kernel⟩, List.mem_of_getElem? (i := 233) (by decide +kernel), List.mem_of_getElem? (i := 959) (by decide +kernel), List.mem_of_getElem? (i := 960) (by decide +kernel)⟩
theorem lw_p30 : lw_okq (⟨"QuarterWalks$Guess", "firstMiss", "(II)I"⟩, 4) := ⟨⟨by decide +kernel, by decide +kernel⟩, List.mem_of_getElem? (i := 233) (by decide +kernel), List.mem_of_getElem? (i := 981) (by decide +kernel), List.mem_of_getElem? (i := 982) (by decide +kernel)⟩
theorem lw_p31 : lw_okq (⟨"QuarterWalks$StepSet", "writeStep", "(Ljava/lang/StringBuilder;I)V"⟩, 4) := ⟨⟨by decide +kernel, by decide +kernel⟩, List.mem_of_getElem? (i := 437) (by decide +kernel), List.mem_of_getElem? (i := 1102) (by decide +kernel), List.mem_of_getElem? (i := 1103) (by decide +kernel)⟩
def lw_privs_2 : List (MethodName × Nat) := [(⟨"QuarterWalks$Grid", "settled", "(J)J"⟩, 11), (⟨"QuarterWalks", "term", "(LQuarterWalks$StepSet;II)I"⟩, 10), (⟨"QuarterWalks", "terms", "(LQuarterWalks$StepSet;)[I"⟩, 10), (⟨"QuarterWalks$Grid", "alongLine", "(II)I"⟩, 11), (⟨"QuarterWalks$Matrix", "clearsBy", "(II)Z"⟩, 4), (⟨"QuarterWalks$Matrix", "clear", "([J[JI)V"⟩, 4), (⟨"QuarterWalks$Grid", "weightOut", "(LQuarterWalks$StepSet;II)I"⟩, 11), (⟨"QuarterWalks$Ways", "cell", "(II)I"⟩, 4), (⟨"QuarterWalks$Ways", "waysOn", "(LQuarterWalks$StepSet;III)I"⟩, 4), (⟨"QuarterWalks$Ways", "ways", "(III)I"⟩, 4), (⟨"QuarterWalks", "isHalfEnough", "(LQuarterWalks$StepSet;I)Z"⟩, 10), (⟨"QuarterWalks", "readies", "(IIIII)Z"⟩, 10), (⟨"QuarterWalks$Guess", "solve", "(II)Z"⟩, 4), (⟨"QuarterWalks$Guess", "factor", "(III)I"⟩, 4), (⟨"QuarterWalks$Guess", "firstMiss", "(II)I"⟩, 4), (⟨"QuarterWalks$StepSet", "writeStep", "(Ljava/lang/StringBuilder;I)V"⟩, 4)]
theorem lw_r2 : ∀ q ∈ lw_privs_2, lw_okq q := List.forall_mem_cons.mpr ⟨lw_p16, List.forall_mem_cons.mpr ⟨lw_p17, List.forall_mem_cons.mpr ⟨lw_p18, List.forall_mem_cons.mpr ⟨lw_p19, List.forall_mem_cons.mpr ⟨lw_p20, List.forall_mem_cons.mpr ⟨lw_p21, List.forall_mem_cons.mpr ⟨lw_p22, List.forall_mem_cons.mpr ⟨lw_p23, List.forall_mem_cons.mpr ⟨lw_p24, List.forall_mem_cons.mpr ⟨lw_p25, List.forall_mem_cons.mpr ⟨lw_p26, List.forall_mem_cons.mpr ⟨lw_p27, List.forall_mem_cons.mpr ⟨lw_p28, List.forall_mem_cons.mpr ⟨lw_p29, List.forall_mem_cons.mpr ⟨lw_p30, List.forall_mem_cons.mpr ⟨lw_p31, fun _ h => absurd h List.not_mem_nil⟩⟩⟩⟩⟩⟩⟩⟩⟩⟩⟩⟩⟩⟩⟩⟩
theorem lw_p32 : lw_okq (⟨"QuarterWalks", "unlikeSets", "()I"⟩, 10) := ⟨⟨by decide +kernel, by decide +kernel⟩, List.mem_of_getElem? (i := 30) (by decide +kernel), List.mem_of_getElem? (i := 1223) (by decide +kernel), List.mem_of_getElem? (i := 1224) (by decide +kernel)⟩
theorem lw_p33 : lw_okq (⟨"QuarterWalks", "isRepeated", "(I)Z"⟩, 10) := ⟨⟨by decide +kernel, by decide +kernel⟩, List.mem_of_getElem? (i := 30) (by decide +kernel), List.mem_of_getElem? (i := 1231) (by decide +kernel), List.mem_of_getElem? (i := 1232) (by decide +kernel)⟩
theorem lw_p34 : lw_okq (⟨"QuarterWalks", "commonSteps", "()I"⟩, 10) := ⟨⟨by decide +kernel, by decide +kernel⟩, List.mem_of_getElem? (i := 30) (by decide +kernel), List.mem_of_getElem? (i := 1239) (by decide +kernel), List.mem_of_getElem? (i := 1240) (by decide +kernel)⟩
theorem lw_p35 : lw_okq (⟨"QuarterWalks", "greatestBy", "(I)I"⟩, 10) := ⟨⟨by decide +kernel, by decide +kernel⟩, List.mem_of_getElem? (i := 30) (by decide +kernel), List.mem_of_getElem? (i := 1243) (by decide +kernel), List.mem_of_getElem? (i := 1244) (by decide +kernel)⟩
theorem lw_p36 : lw_okq (⟨"java/lang/Throwable", "fillInStackTrace", "(I)Ljava/lang/Throwable;"⟩, 6) := ⟨⟨by decide +kernel, by decide +kernel⟩, List.mem_of_getElem? (i := 1302) (by decide +kernel), List.mem_of_getElem? (i := 1300) (by decide +kernel), List.mem_of_getElem? (i := 1301) (by decide +kernel)⟩
theorem lw_p37 : lw_okq (⟨"QuarterWalksModel", "brings", "(I)V"⟩, 32) := ⟨⟨by decide +kernel, by decide +kernel⟩, List.mem_of_getElem? (i := 1333) (by decide +kernel), List.mem_of_getElem? (i := 1447) (by decide +kernel), List.mem_of_getElem? (i := 1448) (by decide +kernel)⟩
theorem lw_p38 : lw_okq (⟨"QuarterWalksModel", "reads", "()I"⟩, 32) := ⟨⟨by decide +kernel, by decide +kernel⟩, List.mem_of_getElem? (i := 1333) (by decide +kernel), List.mem_of_getElem? (i := 1459) (by decide +kernel), List.mem_of_getElem? (i := 1460) (by decide +kernel)⟩
theorem lw_p39 : lw_okq (⟨"QuarterWalksModel", "readsStep", "()V"⟩, 32) := ⟨⟨by decide +kernel, by decide +kernel⟩, List.mem_of_getElem? (i := 1333) (by decide +kernel), List.mem_of_getElem? (i := 1463) (by decide +kernel), List.mem_of_getElem? (i := 1464) (by decide +kernel)⟩
theorem lw_p40 : lw_okq (⟨"QuarterWalksModel", "look", "()I"⟩, 32) := ⟨⟨by decide +kernel, by decide +kernel⟩, List.mem_of_getElem? (i := 1333) (by decide +kernel), List.mem_of_getElem? (i := 1467) (by decide +kernel), List.mem_of_getElem? (i := 1468) (by decide +kernel)⟩
theorem lw_p41 : lw_okq (⟨"QuarterWalksModel", "here", "()I"⟩, 32) := ⟨⟨by decide +kernel, by decide +kernel⟩, List.mem_of_getElem? (i := 1333) (by decide +kernel), List.mem_of_getElem? (i := 1471) (by decide +kernel), List.mem_of_getElem? (i := 1472) (by decide +kernel)⟩
theorem lw_p42 : lw_okq (⟨"QuarterWalksModel", "stepHere", "()I"⟩, 32) := ⟨⟨by decide +kernel, by decide +kernel⟩, List.mem_of_getElem? (i := 1333) (by decide +kernel), List.mem_of_getElem? (i := 1475) (by decide +kernel), List.mem_of_getElem? (i := 1476) (by decide +kernel)⟩
theorem lw_p43 : lw_okq (⟨"QuarterWalksModel", "word", "(Ljava/lang/String;)Z"⟩, 32) := ⟨⟨by decide +kernel, by decide +kernel⟩, List.mem_of_getElem? (i := 1333) (by decide +kernel), List.mem_of_getElem? (i := 1480) (by decide +kernel), List.mem_of_getElem? (i := 1481) (by decide +kernel)⟩
theorem lw_p44 : lw_okq (⟨"QuarterWalksModel", "fails", "(I)V"⟩, 32) := ⟨⟨by decide +kernel, by decide +kernel⟩, List.mem_of_getElem? (i := 1333) (by decide +kernel), List.mem_of_getElem? (i := 1493) (by decide +kernel), List.mem_of_getElem? (i := 1494) (by decide +kernel)⟩
theorem lw_p45 : lw_okq (⟨"QuarterWalksModel", "isDigit", "()Z"⟩, 32) := ⟨⟨by decide +kernel, by decide +kernel⟩, List.mem_of_getElem? (i := 1333) (by decide +kernel), List.mem_of_getElem? (i := 1497) (by decide +kernel), List.mem_of_getElem? (i := 1498) (by decide +kernel)⟩
theorem lw_p46 : lw_okq (⟨"QuarterWalksModel", "digit", "(I)I"⟩, 32) := ⟨⟨by decide +kernel, by decide +kernel⟩, List.mem_of_getElem? (i := 1333) (by decide +kernel), List.mem_of_getElem? (i := 1501) (by decide +kernel), List.mem_of_getElem? (i := 1502) (by decide +kernel)⟩
theorem lw_p47 : lw_okq (⟨"QuarterWalksModel", "readsStart", "()V"⟩, 32) := ⟨⟨by decide +kernel, by decide +kernel⟩, List.mem_of_getElem? (i := 1333) (by decide +kernel), List.mem_of_getElem? (i := 1505) (by decide +kernel), List.mem_of_getElem? (i := 1506) (by decide +kernel)⟩
def lw_privs_3 : List (MethodName × Nat) := [(⟨"QuarterWalks", "unlikeSets", "()I"⟩, 10), (⟨"QuarterWalks", "isRepeated", "(I)Z"⟩, 10), (⟨"QuarterWalks", "commonSteps", "()I"⟩, 10), (⟨"QuarterWalks", "greatestBy", "(I)I"⟩, 10), (⟨"java/lang/Throwable", "fillInStackTrace", "(I)Ljava/lang/Throwable;"⟩, 6), (⟨"QuarterWalksModel", "brings", "(I)V"⟩, 32), (⟨"QuarterWalksModel", "reads", "()I"⟩, 32), (⟨"QuarterWalksModel", "readsStep", "()V"⟩, 32), (⟨"QuarterWalksModel", "look", "()I"⟩, 32), (⟨"QuarterWalksModel", "here", "()I"⟩, 32), (⟨"QuarterWalksModel", "stepHere", "()I"⟩, 32), (⟨"QuarterWalksModel", "word", "(Ljava/lang/String;)Z"⟩, 32), (⟨"QuarterWalksModel", "fails", "(I)V"⟩, 32), (⟨"QuarterWalksModel", "isDigit", "()Z"⟩, 32), (⟨"QuarterWalksModel", "digit", "(I)I"⟩, 32), (⟨"QuarterWalksModel", "readsStart", "()V"⟩, 32)]
theorem lw_r3 : ∀ q ∈ lw_privs_3, lw_okq q := List.forall_mem_cons.mpr ⟨lw_p32, List.forall_mem_cons.mpr ⟨lw_p33, List.forall_mem_cons.mpr ⟨lw_p34, List.forall_mem_cons.mpr ⟨lw_p35, List.forall_mem_cons.mpr ⟨lw_p36, List.forall_mem_cons.mpr ⟨lw_p37, List.forall_mem_cons.mpr ⟨lw_p38, List.forall_mem_cons.mpr ⟨lw_p39, List.forall_mem_cons.mpr ⟨lw_p40, List.forall_mem_cons.mpr ⟨lw_p41, List.forall_mem_cons.mpr ⟨lw_p42, List.forall_mem_cons.mpr ⟨lw_p43, List.forall_mem_cons.mpr ⟨lw_p44, List.forall_mem_cons.mpr ⟨lw_p45, List.forall_mem_cons.mpr ⟨lw_p46, List.forall_mem_cons.mpr ⟨lw_p47, fun _ h => absurd h List.not_mem_nil⟩⟩⟩⟩⟩⟩⟩⟩⟩⟩⟩⟩⟩⟩⟩⟩
theorem lw_p48 : lw_okq (⟨"QuarterWalksModel", "refuse", "(I)I"⟩, 32) := ⟨⟨by decide +kernel, by decide +kernel⟩, List.mem_of_getElem? (i := 1333) (by decide +kernel), List.mem_of_getElem? (i := 1514) (by decide +kernel), List.mem_of_getElem? (i := 1515) (by decide +kernel)⟩
theorem lw_p49 : lw_okq (⟨"QuarterWalksModel", "comes", "()I"⟩, 32) := ⟨⟨by decide +kernel, by decide +kernel⟩, List.mem_of_getElem? (i := 1333) (by decide +kernel), List.mem_of_getElem? (i := 1518) (by decide +kernel), List.mem_of_getElem? (i := 1519) (by decide +kernel)⟩
theorem lw_p50 : lw_okq (⟨"QuarterWalksModel", "keeps", "()V"⟩, 32) := ⟨⟨by decide +kernel, by decide +kernel⟩, List.mem_of_getElem? (i := 1333) (by decide +kernel), List.mem_of_getElem? (i := 1522) (by decide +kernel), List.mem_of_getElem? (i := 1523) (by decide +kernel)⟩
theorem lw_p51 : lw_okq (⟨"QuarterWalksModel", "isSet", "(I)Z"⟩, 32) := ⟨⟨by decide +kernel, by decide +kernel⟩, List.mem_of_getElem? (i := 1333) (by decide +kernel), List.mem_of_getElem? (i := 1530) (by decide +kernel), List.mem_of_getElem? (i := 1531) (by decide +kernel)⟩
theorem lw_p52 : lw_okq (⟨"QuarterWalksModel", "weightOf", "(II)I"⟩, 32) := ⟨⟨by decide +kernel, by decide +kernel⟩, List.mem_of_getElem? (i := 1333) (by decide +kernel), List.mem_of_getElem? (i := 1541) (by decide +kernel), List.mem_of_getElem? (i := 1542) (by decide +kernel)⟩
theorem lw_p53 : lw_okq (⟨"QuarterWalksModel", "worthOf", "(I)I"⟩, 32) := ⟨⟨by decide +kernel, by decide +kernel⟩, List.mem_of_getElem? (i := 1333) (by decide +kernel), List.mem_of_getElem? (i := 1559) (by decide +kernel), List.mem_of_getElem? (i := 1560) (by decide +kernel)⟩
theorem lw_p54 : lw_okq (⟨"QuarterWalksModel", "stepsOf", "(I)I"⟩, 32) := ⟨⟨by decide +kernel, by decide +kernel⟩, List.mem_of_getElem? (i := 1333) (by decide +kernel), List.mem_of_getElem? (i := 1568) (by decide +kernel), List.mem_of_getElem? (i := 1569) (by decide +kernel)⟩
theorem lw_p55 : lw_okq (⟨"QuarterWalksModel", "driftOf", "(IZ)I"⟩, 32) := ⟨⟨by decide +kernel, by decide +kernel⟩, List.mem_of_getElem? (i := 1333) (by decide +kernel), List.mem_of_getElem? (i := 1581) (by decide +kernel), List.mem_of_getElem? (i := 1582) (by decide +kernel)⟩
theorem lw_p56 : lw_okq (⟨"QuarterWalksModel", "bitsOf", "(I)I"⟩, 32) := ⟨⟨by decide +kernel, by decide +kernel⟩, List.mem_of_getElem? (i := 1333) (by decide +kernel), List.mem_of_getElem? (i := 1591) (by decide +kernel), List.mem_of_getElem? (i := 1592) (by decide +kernel)⟩
theorem lw_p57 : lw_okq (⟨"QuarterWalksModel", "goesOn", "(IIII)V"⟩, 32) := ⟨⟨by decide +kernel, by decide +kernel⟩, List.mem_of_getElem? (i := 1333) (by decide +kernel), List.mem_of_getElem? (i := 1608) (by decide +kernel), List.mem_of_getElem? (i := 1609) (by decide +kernel)⟩
theorem lw_p58 : lw_okq (⟨"QuarterWalksModel", "begins", "(I)V"⟩, 32) := ⟨⟨by decide +kernel, by decide +kernel⟩, List.mem_of_getElem? (i := 1333) (by decide +kernel), List.mem_of_getElem? (i := 1612) (by decide +kernel), List.mem_of_getElem? (i := 1613) (by decide +kernel)⟩
theorem lw_p59 : lw_okq (⟨"QuarterWalksModel", "goes", "(III)V"⟩, 32) := ⟨⟨by decide +kernel, by decide +kernel⟩, List.mem_of_getElem? (i := 1333) (by decide +kernel), List.mem_of_getElem? (i := 1619) (by decide +kernel), List.mem_of_getElem? (i := 1620) (by decide +kernel)⟩
theorem lw_p60 : lw_okq (⟨"QuarterWalksModel", "gridAt", "(II)J"⟩, 32) := ⟨⟨by decide +kernel, by decide +kernel⟩, List.mem_of_getElem? (i := 1333) (by decide +kernel), List.mem_of_getElem? (i := 1630) (by decide +kernel), List.mem_of_getElem? (i := 1631) (by decide +kernel)⟩
theorem lw_p61 : lw_okq (⟨"QuarterWalksModel", "sumOf", "(II)I"⟩, 32) := ⟨⟨by decide +kernel, by decide +kernel⟩, List.mem_of_getElem? (i := 1333) (by decide +kernel), List.mem_of_getElem? (i := 1641) (by decide +kernel), List.mem_of_getElem? (i := 1642) (by decide +kernel)⟩
theorem lw_p62 : lw_okq (⟨"QuarterWalksModel", "isOf", "(IIII)Z"⟩, 32) := ⟨⟨by decide +kernel, by decide +kernel⟩, List.mem_of_getElem? (i := 1333) (by decide +kernel), List.mem_of_getElem? (i := 1645) (by decide +kernel), List.mem_of_getElem? (i := 1646) (by decide +kernel)⟩
theorem lw_p63 : lw_okq (⟨"QuarterWalksModel", "isExact", "(II)Z"⟩, 32) := ⟨⟨by decide +kernel, by decide +kernel⟩, List.mem_of_getElem? (i := 1333) (by decide +kernel), List.mem_of_getElem? (i := 1653) (by decide +kernel), List.mem_of_getElem? (i := 1654) (by decide +kernel)⟩
def lw_privs_4 : List (MethodName × Nat) := [(⟨"QuarterWalksModel", "refuse", "(I)I"⟩, 32), (⟨"QuarterWalksModel", "comes", "()I"⟩, 32), (⟨"QuarterWalksModel", "keeps", "()V"⟩, 32), (⟨"QuarterWalksModel", "isSet", "(I)Z"⟩, 32), (⟨"QuarterWalksModel", "weightOf", "(II)I"⟩, 32), (⟨"QuarterWalksModel", "worthOf", "(I)I"⟩, 32), (⟨"QuarterWalksModel", "stepsOf", "(I)I"⟩, 32), (⟨"QuarterWalksModel", "driftOf", "(IZ)I"⟩, 32), (⟨"QuarterWalksModel", "bitsOf", "(I)I"⟩, 32), (⟨"QuarterWalksModel", "goesOn", "(IIII)V"⟩, 32), (⟨"QuarterWalksModel", "begins", "(I)V"⟩, 32), (⟨"QuarterWalksModel", "goes", "(III)V"⟩, 32), (⟨"QuarterWalksModel", "gridAt", "(II)J"⟩, 32), (⟨"QuarterWalksModel", "sumOf", "(II)I"⟩, 32), (⟨"QuarterWalksModel", "isOf", "(IIII)Z"⟩, 32), (⟨"QuarterWalksModel", "isExact", "(II)Z"⟩, 32)]
theorem lw_r4 : ∀ q ∈ lw_privs_4, lw_okq q := List.forall_mem_cons.mpr ⟨lw_p48, List.forall_mem_cons.mpr ⟨lw_p49, List.forall_mem_cons.mpr ⟨lw_p50, List.forall_mem_cons.mpr ⟨lw_p51, List.forall_mem_cons.mpr ⟨lw_p52, List.forall_mem_cons.mpr ⟨lw_p53, List.forall_mem_cons.mpr ⟨lw_p54, List.forall_mem_cons.mpr ⟨lw_p55, List.forall_mem_cons.mpr ⟨lw_p56, List.forall_mem_cons.mpr ⟨lw_p57, List.forall_mem_cons.mpr ⟨lw_p58, List.forall_mem_cons.mpr ⟨lw_p59, List.forall_mem_cons.mpr ⟨lw_p60, List.forall_mem_cons.mpr ⟨lw_p61, List.forall_mem_cons.mpr ⟨lw_p62, List.forall_mem_cons.mpr ⟨lw_p63, fun _ h => absurd h List.not_mem_nil⟩⟩⟩⟩⟩⟩⟩⟩⟩⟩⟩⟩⟩⟩⟩⟩
theorem lw_p64 : lw_okq (⟨"QuarterWalksModel", "laysTerms", "(IIII[I)V"⟩, 32) := ⟨⟨by decide +kernel, by decide +kernel⟩, List.mem_of_getElem? (i := 1333) (by decide +kernel), List.mem_of_getElem? (i := 1667) (by decide +kernel), List.mem_of_getElem? (i := 1668) (by decide +kernel)⟩
theorem lw_p65 : lw_okq (⟨"QuarterWalksModel", "clears", "(II)V"⟩, 32) := ⟨⟨by decide +kernel, by decide +kernel⟩, List.mem_of_getElem? (i := 1333) (by decide +kernel), List.mem_of_getElem? (i := 1685) (by decide +kernel), List.mem_of_getElem? (i := 1686) (by decide +kernel)⟩
theorem lw_p66 : lw_okq (⟨"QuarterWalksModel", "isEven", "(I)Z"⟩, 32) := ⟨⟨by decide +kernel, by decide +kernel⟩, List.mem_of_getElem? (i := 1333) (by decide +kernel), List.mem_of_getElem? (i := 1693) (by decide +kernel), List.mem_of_getElem? (i := 1694) (by decide +kernel)⟩
theorem lw_p67 : lw_okq (⟨"QuarterWalksModel", "ranks", "(I)I"⟩, 32) := ⟨⟨by decide +kernel, by decide +kernel⟩, List.mem_of_getElem? (i := 1333) (by decide +kernel), List.mem_of_getElem? (i := 1706) (by decide +kernel), List.mem_of_getElem? (i := 1707) (by decide +kernel)⟩
theorem lw_p68 : lw_okq (⟨"QuarterWalksModel", "walksTo", "(IIII)J"⟩, 32) := ⟨⟨by decide +kernel, by decide +kernel⟩, List.mem_of_getElem? (i := 1333) (by decide +kernel), List.mem_of_getElem? (i := 1734) (by decide +kernel), List.mem_of_getElem? (i := 1735) (by decide +kernel)⟩
theorem lw_p69 : lw_okq (⟨"QuarterWalksModel", "walkStep", "(IIIIJI)I"⟩, 32) := ⟨⟨by decide +kernel, by decide +kernel⟩, List.mem_of_getElem? (i := 1333) (by decide +kernel), List.mem_of_getElem? (i := 1738) (by decide +kernel), List.mem_of_getElem? (i := 1739) (by decide +kernel)⟩
theorem lw_p70 : lw_okq (⟨"QuarterWalksModel", "walksFrom", "(IIIIII)J"⟩, 32) := ⟨⟨by decide +kernel, by decide +kernel⟩, List.mem_of_getElem? (i := 1333) (by decide +kernel), List.mem_of_getElem? (i := 1742) (by decide +kernel), List.mem_of_getElem? (i := 1743) (by decide +kernel)⟩
theorem lw_p71 : lw_okq (⟨"QuarterWalksModel", "turns", "(IIII)I"⟩, 32) := ⟨⟨by decide +kernel, by decide +kernel⟩, List.mem_of_getElem? (i := 1333) (by decide +kernel), List.mem_of_getElem? (i := 1789) (by decide +kernel), List.mem_of_getElem? (i := 1790) (by decide +kernel)⟩
theorem lw_p72 : lw_okq (⟨"QuarterWalksModel", "part", "(IIIJ)J"⟩, 32) := ⟨⟨by decide +kernel, by decide +kernel⟩, List.mem_of_getElem? (i := 1333) (by decide +kernel), List.mem_of_getElem? (i := 1793) (by decide +kernel), List.mem_of_getElem? (i := 1794) (by decide +kernel)⟩
theorem lw_p73 : lw_okq (⟨"QuarterWalksModel", "laysOrbit", "(III)I"⟩, 32) := ⟨⟨by decide +kernel, by decide +kernel⟩, List.mem_of_getElem? (i := 1333) (by decide +kernel), List.mem_of_getElem? (i := 1801) (by decide +kernel), List.mem_of_getElem? (i := 1802) (by decide +kernel)⟩
theorem lw_p74 : lw_okq (⟨"QuarterWalksModel", "groupOf", "(I)I"⟩, 32) := ⟨⟨by decide +kernel, by decide +kernel⟩, List.mem_of_getElem? (i := 1333) (by decide +kernel), List.mem_of_getElem? (i := 1809) (by decide +kernel), List.mem_of_getElem? (i := 1810) (by decide +kernel)⟩
theorem lw_p75 : lw_okq (⟨"QuarterWalksModel", "isAsMany", "(II)Z"⟩, 32) := ⟨⟨by decide +kernel, by decide +kernel⟩, List.mem_of_getElem? (i := 1333) (by decide +kernel), List.mem_of_getElem? (i := 1826) (by decide +kernel), List.mem_of_getElem? (i := 1827) (by decide +kernel)⟩
theorem lw_p76 : lw_okq (⟨"QuarterWalksModel", "areAlike", "(II)Z"⟩, 32) := ⟨⟨by decide +kernel, by decide +kernel⟩, List.mem_of_getElem? (i := 1333) (by decide +kernel), List.mem_of_getElem? (i := 1834) (by decide +kernel), List.mem_of_getElem? (i := 1835) (by decide +kernel)⟩
theorem lw_p77 : lw_okq (⟨"QuarterWalksModel", "numberOf", "(IIIIIII)I"⟩, 32) := ⟨⟨by decide +kernel, by decide +kernel⟩, List.mem_of_getElem? (i := 1333) (by decide +kernel), List.mem_of_getElem? (i := 1842) (by decide +kernel), List.mem_of_getElem? (i := 1843) (by decide +kernel)⟩
theorem lw_p78 : lw_okq (⟨"QuarterWalksModel", "isGuess", "(IIIII)Z"⟩, 32) := ⟨⟨by decide +kernel, by decide +kernel⟩, List.mem_of_getElem? (i := 1333) (by decide +kernel), List.mem_of_getElem? (i := 1846) (by decide +kernel), List.mem_of_getElem? (i := 1847) (by decide +kernel)⟩
theorem lw_p79 : lw_okq (⟨"QuarterWalksModel", "laysAll", "(II)V"⟩, 32) := ⟨⟨by decide +kernel, by decide +kernel⟩, List.mem_of_getElem? (i := 1333) (by decide +kernel), List.mem_of_getElem? (i := 1852) (by decide +kernel), List.mem_of_getElem? (i := 1853) (by decide +kernel)⟩
def lw_privs_5 : List (MethodName × Nat) := [(⟨"QuarterWalksModel", "laysTerms", "(IIII[I)V"⟩, 32), (⟨"QuarterWalksModel", "clears", "(II)V"⟩, 32), (⟨"QuarterWalksModel", "isEven", "(I)Z"⟩, 32), (⟨"QuarterWalksModel", "ranks", "(I)I"⟩, 32), (⟨"QuarterWalksModel", "walksTo", "(IIII)J"⟩, 32), (⟨"QuarterWalksModel", "walkStep", "(IIIIJI)I"⟩, 32), (⟨"QuarterWalksModel", "walksFrom", "(IIIIII)J"⟩, 32), (⟨"QuarterWalksModel", "turns", "(IIII)I"⟩, 32), (⟨"QuarterWalksModel", "part", "(IIIJ)J"⟩, 32), (⟨"QuarterWalksModel", "laysOrbit", "(III)I"⟩, 32), (⟨"QuarterWalksModel", "groupOf", "(I)I"⟩, 32), (⟨"QuarterWalksModel", "isAsMany", "(II)Z"⟩, 32), (⟨"QuarterWalksModel", "areAlike", "(II)Z"⟩, 32), (⟨"QuarterWalksModel", "numberOf", "(IIIIIII)I"⟩, 32), (⟨"QuarterWalksModel", "isGuess", "(IIIII)Z"⟩, 32), (⟨"QuarterWalksModel", "laysAll", "(II)V"⟩, 32)]
theorem lw_r5 : ∀ q ∈ lw_privs_5, lw_okq q := List.forall_mem_cons.mpr ⟨lw_p64, List.forall_mem_cons.mpr ⟨lw_p65, List.forall_mem_cons.mpr ⟨lw_p66, List.forall_mem_cons.mpr ⟨lw_p67, List.forall_mem_cons.mpr ⟨lw_p68, List.forall_mem_cons.mpr ⟨lw_p69, List.forall_mem_cons.mpr ⟨lw_p70, List.forall_mem_cons.mpr ⟨lw_p71, List.forall_mem_cons.mpr ⟨lw_p72, List.forall_mem_cons.mpr ⟨lw_p73, List.forall_mem_cons.mpr ⟨lw_p74, List.forall_mem_cons.mpr ⟨lw_p75, List.forall_mem_cons.mpr ⟨lw_p76, List.forall_mem_cons.mpr ⟨lw_p77, List.forall_mem_cons.mpr ⟨lw_p78, List.forall_mem_cons.mpr ⟨lw_p79, fun _ h => absurd h List.not_mem_nil⟩⟩⟩⟩⟩⟩⟩⟩⟩⟩⟩⟩⟩⟩⟩⟩
theorem lw_p80 : lw_okq (⟨"QuarterWalksModel", "laysPowers", "()V"⟩, 32) := ⟨⟨by decide +kernel, by decide +kernel⟩, List.mem_of_getElem? (i := 1333) (by decide +kernel), List.mem_of_getElem? (i := 1856) (by decide +kernel), List.mem_of_getElem? (i := 1857) (by decide +kernel)⟩
theorem lw_p81 : lw_okq (⟨"QuarterWalksModel", "guesses", "(III)Z"⟩, 32) := ⟨⟨by decide +kernel, by decide +kernel⟩, List.mem_of_getElem? (i := 1333) (by decide +kernel), List.mem_of_getElem? (i := 1860) (by decide +kernel), List.mem_of_getElem? (i := 1861) (by decide +kernel)⟩
theorem lw_p82 : lw_okq (⟨"QuarterWalksModel", "entry", "(IIII)J"⟩, 32) := ⟨⟨by decide +kernel, by decide +kernel⟩, List.mem_of_getElem? (i := 1333) (by decide +kernel), List.mem_of_getElem? (i := 1864) (by decide +kernel), List.mem_of_getElem? (i := 1865) (by decide +kernel)⟩
theorem lw_p83 : lw_okq (⟨"QuarterWalksModel", "hangs", "()Z"⟩, 32) := ⟨⟨by decide +kernel, by decide +kernel⟩, List.mem_of_getElem? (i := 1333) (by decide +kernel), List.mem_of_getElem? (i := 1871) (by decide +kernel), List.mem_of_getElem? (i := 1872) (by decide +kernel)⟩
theorem lw_p84 : lw_okq (⟨"QuarterWalksModel", "less", "(IIJ)V"⟩, 32) := ⟨⟨by decide +kernel, by decide +kernel⟩, List.mem_of_getElem? (i := 1333) (by decide +kernel), List.mem_of_getElem? (i := 1875) (by decide +kernel), List.mem_of_getElem? (i := 1876) (by decide +kernel)⟩
theorem lw_p85 : lw_okq (⟨"QuarterWalksModel", "leadOf", "(I)I"⟩, 32) := ⟨⟨by decide +kernel, by decide +kernel⟩, List.mem_of_getElem? (i := 1333) (by decide +kernel), List.mem_of_getElem? (i := 1879) (by decide +kernel), List.mem_of_getElem? (i := 1880) (by decide +kernel)⟩
theorem lw_p86 : lw_okq (⟨"QuarterWalksModel", "failOf", "(IIIII)I"⟩, 32) := ⟨⟨by decide +kernel, by decide +kernel⟩, List.mem_of_getElem? (i := 1333) (by decide +kernel), List.mem_of_getElem? (i := 1887) (by decide +kernel), List.mem_of_getElem? (i := 1888) (by decide +kernel)⟩
theorem lw_p87 : lw_okq (⟨"QuarterWalksModel", "failsAt", "(III)I"⟩, 32) := ⟨⟨by decide +kernel, by decide +kernel⟩, List.mem_of_getElem? (i := 1333) (by decide +kernel), List.mem_of_getElem? (i := 1891) (by decide +kernel), List.mem_of_getElem? (i := 1892) (by decide +kernel)⟩
theorem lw_p88 : lw_okq (⟨"QuarterWalksModel", "writes", "(I)V"⟩, 32) := ⟨⟨by decide +kernel, by decide +kernel⟩, List.mem_of_getElem? (i := 1333) (by decide +kernel), List.mem_of_getElem? (i := 1911) (by decide +kernel), List.mem_of_getElem? (i := 1912) (by decide +kernel)⟩
theorem lw_p89 : lw_okq (⟨"QuarterWalksModel", "says", "(Ljava/lang/String;)V"⟩, 32) := ⟨⟨by decide +kernel, by decide +kernel⟩, List.mem_of_getElem? (i := 1333) (by decide +kernel), List.mem_of_getElem? (i := 1916) (by decide +kernel), List.mem_of_getElem? (i := 1917) (by decide +kernel)⟩
theorem lw_p90 : lw_okq (⟨"QuarterWalksModel", "saysDigit", "(I)V"⟩, 32) := ⟨⟨by decide +kernel, by decide +kernel⟩, List.mem_of_getElem? (i := 1333) (by decide +kernel), List.mem_of_getElem? (i := 1923) (by decide +kernel), List.mem_of_getElem? (i := 1924) (by decide +kernel)⟩
theorem lw_p91 : lw_okq (⟨"QuarterWalksModel", "unlike", "()I"⟩, 32) := ⟨⟨by decide +kernel, by decide +kernel⟩, List.mem_of_getElem? (i := 1333) (by decide +kernel), List.mem_of_getElem? (i := 1948) (by decide +kernel), List.mem_of_getElem? (i := 1949) (by decide +kernel)⟩
theorem lw_p92 : lw_okq (⟨"QuarterWalksModel", "areOne", "(II)Z"⟩, 32) := ⟨⟨by decide +kernel, by decide +kernel⟩, List.mem_of_getElem? (i := 1333) (by decide +kernel), List.mem_of_getElem? (i := 1952) (by decide +kernel), List.mem_of_getElem? (i := 1953) (by decide +kernel)⟩
theorem lw_p93 : lw_okq (⟨"QuarterWalksModel", "mostBy", "(I)I"⟩, 32) := ⟨⟨by decide +kernel, by decide +kernel⟩, List.mem_of_getElem? (i := 1333) (by decide +kernel), List.mem_of_getElem? (i := 1956) (by decide +kernel), List.mem_of_getElem? (i := 1957) (by decide +kernel)⟩
theorem lw_p94 : lw_okq (⟨"QuarterWalksModel", "numberFor", "(II)I"⟩, 32) := ⟨⟨by decide +kernel, by decide +kernel⟩, List.mem_of_getElem? (i := 1333) (by decide +kernel), List.mem_of_getElem? (i := 1960) (by decide +kernel), List.mem_of_getElem? (i := 1961) (by decide +kernel)⟩
def lw_privs_6 : List (MethodName × Nat) := [(⟨"QuarterWalksModel", "laysPowers", "()V"⟩, 32), (⟨"QuarterWalksModel", "guesses", "(III)Z"⟩, 32), (⟨"QuarterWalksModel", "entry", "(IIII)J"⟩, 32), (⟨"QuarterWalksModel", "hangs", "()Z"⟩, 32), (⟨"QuarterWalksModel", "less", "(IIJ)V"⟩, 32), (⟨"QuarterWalksModel", "leadOf", "(I)I"⟩, 32), (⟨"QuarterWalksModel", "failOf", "(IIIII)I"⟩, 32), (⟨"QuarterWalksModel", "failsAt", "(III)I"⟩, 32), (⟨"QuarterWalksModel", "writes", "(I)V"⟩, 32), (⟨"QuarterWalksModel", "says", "(Ljava/lang/String;)V"⟩, 32), (⟨"QuarterWalksModel", "saysDigit", "(I)V"⟩, 32), (⟨"QuarterWalksModel", "unlike", "()I"⟩, 32), (⟨"QuarterWalksModel", "areOne", "(II)Z"⟩, 32), (⟨"QuarterWalksModel", "mostBy", "(I)I"⟩, 32), (⟨"QuarterWalksModel", "numberFor", "(II)I"⟩, 32)]
theorem lw_r6 : ∀ q ∈ lw_privs_6, lw_okq q := List.forall_mem_cons.mpr ⟨lw_p80, List.forall_mem_cons.mpr ⟨lw_p81, List.forall_mem_cons.mpr ⟨lw_p82, List.forall_mem_cons.mpr ⟨lw_p83, List.forall_mem_cons.mpr ⟨lw_p84, List.forall_mem_cons.mpr ⟨lw_p85, List.forall_mem_cons.mpr ⟨lw_p86, List.forall_mem_cons.mpr ⟨lw_p87, List.forall_mem_cons.mpr ⟨lw_p88, List.forall_mem_cons.mpr ⟨lw_p89, List.forall_mem_cons.mpr ⟨lw_p90, List.forall_mem_cons.mpr ⟨lw_p91, List.forall_mem_cons.mpr ⟨lw_p92, List.forall_mem_cons.mpr ⟨lw_p93, List.forall_mem_cons.mpr ⟨lw_p94, fun _ h => absurd h List.not_mem_nil⟩⟩⟩⟩⟩⟩⟩⟩⟩⟩⟩⟩⟩⟩⟩
def lw_privs : List (MethodName × Nat) := lw_privs_1 ++ (lw_privs_2 ++ (lw_privs_3 ++ (lw_privs_4 ++ (lw_privs_5 ++ (lw_privs_6)))))
def lw_tbl : List Cond := k2_sels lw_privs ++ tables_1
theorem lw_privs_ok : ∀ q ∈ lw_privs, lw_okq q := by
  show ∀ q ∈ lw_privs_1 ++ (lw_privs_2 ++ (lw_privs_3 ++ (lw_privs_4 ++ (lw_privs_5 ++ (lw_privs_6))))), lw_okq q
  exact List.forall_mem_append.mpr ⟨lw_r1, List.forall_mem_append.mpr ⟨lw_r2, List.forall_mem_append.mpr ⟨lw_r3, List.forall_mem_append.mpr ⟨lw_r4, List.forall_mem_append.mpr ⟨lw_r5, lw_r6⟩⟩⟩⟩⟩
end
section
def va_AOA (ty : FieldType) (U : State) : Prop := (Cond.arrayOver (.array ty)).before #[] U = true
theorem va_AOA.of {ty : FieldType} {A : Array Value} {U : State} (h : (Cond.arrayOver (.array ty)).before A U = true) : va_AOA ty U := h
theorem va_AOA.use {ty : FieldType} {A : Array Value} {U : State} (h : va_AOA ty U) : (Cond.arrayOver (.array ty)).before A U = true := h
theorem va_AOA.moved {ty : FieldType} {u U : State} (hvm : u.vm.Alike U.vm) (h : va_AOA ty u) : va_AOA ty U := by
  have e : (Cond.arrayOver (.array ty)).before #[] (u.setVm U.vm) = (Cond.arrayOver (.array ty)).before #[] u := Cond.arrayOver_setVmC hvm (.array ty)
  have e2 : (Cond.arrayOver (.array ty)).before #[] (u.setVm U.vm) = (Cond.arrayOver (.array ty)).before #[] U := rfl
  exact e2.symm.trans (e.trans h)
/-! ===== BEGIN words of one list among another's, by their places ===== -/
theorem goodIn_r {big : List Cond} (ws : List Cond) (ps : List Nat) (hp : ws = ps.filterMap (fun i => big[i]?)) (h : ws.all goodWord = true) : GoodIn big ws := by
  intro w hw
  have h1 := List.all_eq_true.mp h w hw
  rw [hp] at hw
  obtain ⟨i, -, hi⟩ := List.mem_filterMap.mp hw
  have hm : w ∈ big := by first | exact List.mem_of_getElem? hi | exact List.getElem?_mem hi
  exact ⟨hm, good_of_word h1⟩
theorem goodIn_app {big a b : List Cond} (ha : GoodIn big a) (hb : GoodIn big b) : GoodIn big (a ++ b) := fun w h => (List.mem_append.mp h).elim (ha w) (hb w)
theorem goodIn_ca {big a b : List Cond} {c : Cond} (ha : GoodIn big (c :: a)) (hb : GoodIn big b) : GoodIn big (c :: (a ++ b)) := fun w h => (List.mem_cons.mp h).elim (fun e => ha w (List.mem_cons.mpr (Or.inl e))) (fun h => (List.mem_append.mp h).elim (fun h => ha w (List.mem_cons.mpr (Or.inr h))) (hb w))
theorem goodIn_sub {big ws : List Cond} (hm : ∀ w ∈ ws, w ∈ big) (h : ws.all goodWord = true) : GoodIn big ws := fun w hw => ⟨hm w hw, good_of_word (List.all_eq_true.mp h w hw)⟩
/-! ===== END ===== -/

/-! ===== BEGIN new T[n][m]: the outer array a place, the inner ones among the pooled ===== -/
/-- f, but v at every address of l -/
def vr_up {α : Type} (f : Nat → α) (l : List Nat) (v : α) : Nat → α := fun a => if a ∈ l then v else f a
theorem vr_up_in {α : Type} {f : Nat → α} {l : List Nat} {v : α} {a : Nat} (h : a ∈ l) : vr_up f l v a = v := if_pos h
theorem vr_up_ne {α : Type} {f : Nat → α} {l : List Nat} {v : α} {a : Nat} (h : a ∉ l) : vr_up f l v a = f a := if_neg h
theorem vr_rows {L l : List Nat} {f : Nat → va_E} {e : va_E} (h : ∀ a, a ∈ l → a ∉ L) : va_pl L f ++ l.map (fun a => (a, e)) = va_pl (L ++ l) (vr_up f l e) := by
  unfold va_pl
  rw [List.map_append]
  congr 1
  · apply List.map_congr_left
    intro a ha
    rw [vr_up_ne (fun q => h a q ha)]
  · apply List.map_congr_left
    intro a ha
    rw [vr_up_in ha]
theorem vr_lay {X rows : va_W} {x : Nat × va_E} {pl : va_W} {D : va_G} {cl : List vw_C} {H : Heap} (hP : va_P D cl (((X ++ pl) ++ [x]) ++ rows) H) : va_P D cl ((X ++ [x]) ++ (pl ++ rows)) H := by
  rw [List.append_assoc (X ++ pl)] at hP
  have h := va_P.swap hP
  rw [← List.append_assoc X] at h
  have h2 := va_P.swap h
  rw [List.append_assoc (X ++ [x])] at h2
  exact h2
theorem vr_layD {X rows : va_W} {x : Nat × va_E} {pl : va_W} {A : Nat → Prop} (hD : va_D A (((X ++ pl) ++ [x]) ++ rows)) : va_D A ((X ++ [x]) ++ (pl ++ rows)) := by
  rw [List.append_assoc (X ++ pl)] at hD
  have h := va_D.swap hD
  rw [← List.append_assoc X] at h
  have h2 := va_D.swap h
  rw [List.append_assoc (X ++ [x])] at h2
  exact h2
theorem vr_outer (c : ClassId) (N h0 : Nat) : ∀ i : Nat, Jvm.Free.Multi.outerC c N h0 i = arrV c N (fun j => va_rf (if j < i then some (h0 + 1 + j) else none))
  | 0 => by
    show ({ cls := c, slots := Array.replicate N .null, vm := .none } : Cell) = _
    rw [arrV_new]
    refine congrArg (arrV c N) (funext fun j => ?_)
    simp [va_rf]
  | i + 1 => by
    show (Jvm.Free.Multi.outerC c N h0 i).setSlot i (.ref (h0 + 1 + i)) = _
    rw [vr_outer c N h0 i, arrV_store]
    refine congrArg (arrV c N) (funext fun j => ?_)
    by_cases e : j = i
    · subst e
      simp [updV, va_rf]
    · by_cases h : j < i
      · simp [updV, e, h, Nat.lt_succ_of_lt h]
      · simp [updV, e, h, show ¬ j < i + 1 by omega]
section VGM
variable {p : Program} {l : Launch} {e : Env} {R : Room} {s : State} {m : MethodId} {args : Array Value} {below : List Frame} {meth : Method} {c : Code} {H : Heap} {locs : List Loc} {cells slots : Nat} {Q : State → Prop}
variable {cc : ByteArray} {pc : Nat} {ls : Array Slot} {rest : List Value} {D : va_G} {cl : List vw_C} {A : Nat → Prop} {a : Nat} {tys : List (ClassId × FieldType)} {ws : va_W} {H0 : Heap}
theorem va_mna {X : va_W} {L : List Nat} {f : Nat → va_E} {cc : ByteArray} (hexec : p.tables.exec = Jvm.exec) (hb : c.code = cc) {own : String} {index : Nat} {ty : FieldType} {cy : ClassId} (hown : s.vm.findClass own = some m.cls) (hclink : (Cond.classLink own index ("[" ++ (FieldType.array ty).toString)).before args s = true) (hover : va_AOA ty s) (harr : (Cond.arrayClass ty).before args s = true) (hcy : s.vm.findClass (FieldType.array ty).toString = some cy)
    (hK : va_K D cl tys s) (hP : va_P D cl (X ++ va_pl L f) H) (hD : va_D A (X ++ va_pl L f)) (hS : va_S A H0 H locs) (hA : ∀ q, H0.size ≤ q → A q) {n k : Int32} {N' K' : Nat} {z : vp_A} (hn : ¬ n < 0) (hk : ¬ k < 0) (hN : n.toNatClampNeg = N') (hM : k.toNatClampNeg = K')
    (hb1 : N' * 4 ≤ 536870912) (hb2 : K' * componentBytes ty ≤ 536870912) (hb3 : K' ≤ 536870912) (hdf : fits ty (defaultValue ty) = true) (hdd : (defaultValue ty).isDefault = true) (hcells : cells + (1 + N') ≤ R.cells) (hslots : slots + (N' + N' * K') ≤ R.slots) (hz : ∀ c : ClassId, Jvm.Free.Multi.innerC c K' (defaultValue ty) = vp_cell c z) (hdg : decode cc pc = .ok (.multianewarray index 2, 4))
    (kk : ∀ (q : Nat) (r : Nat → Nat) (cA : ClassId) (H1 : Heap), (∀ i j : Nat, i < N' → j < N' → r i = r j → i = j) → (∀ i : Nat, i < N' → r i ∉ L) → va_K D cl (tys ++ [(cA, .array ty)]) s →
      va_P D cl ((X ++ [(q, .inl (cA, N', .inr (.inr (.inr (.inr (fun i => if i < N' then some (r i) else none))))))]) ++ va_pl (L ++ (List.range N').map r) (vr_up f ((List.range N').map r) (.inl (cy, z)))) H1 → va_D A ((X ++ [(q, .inl (cA, N', .inr (.inr (.inr (.inr (fun i => if i < N' then some (r i) else none))))))]) ++ va_pl (L ++ (List.range N').map r) (vr_up f ((List.range N').map r) (.inl (cy, z)))) → va_S A H0 H1 locs →
      W p l e R s m args below meth c H1 locs (cells + 1 + N') (slots + N' + N' * K') Q (F0 m (pc + 4) ls (.ref q :: rest))) : W p l e R s m args below meth c H locs cells slots Q (F0 m pc ls (.int k :: .int n :: rest)) := by
  subst hN
  subst hM
  intro T hT Xs
  obtain ⟨vm₁, cA, comp, -, fA, fC, hO, -, X', step⟩ := Xs.multianewarray2F hexec hown hclink (va_AOA.use hover) harr (g := F0 m pc ls (.int k :: .int n :: rest)) rfl (by rw [hb]; exact hdg) rfl hn hk hb1 hb2 hb3 hdf hdd hcells hslots
  have ec : some cy = some comp := hcy.symm.trans fC
  cases ec
  generalize hF : Jvm.Free.Multi.fill (T.setVm vm₁) cA cy n.toNatClampNeg k.toNatClampNeg (defaultValue ty) n.toNatClampNeg = F at X' step
  have hTh : (T.setVm vm₁).heap = H := hT
  obtain ⟨f1, f2, -, -⟩ := Jvm.Free.Multi.fill_facts (T.setVm vm₁) cA cy n.toNatClampNeg k.toNatClampNeg (defaultValue ty) n.toNatClampNeg
  rw [hF, hTh] at f1 f2
  have hold : ∀ x : Nat, x < H.size → F.heap[x]? = H[x]? := fun x hx => by
    have := Jvm.Free.Multi.fill_old (T.setVm vm₁) cA cy n.toNatClampNeg k.toNatClampNeg (defaultValue ty) (a := x) (by rw [hTh]; exact hx) n.toNatClampNeg
    rw [hF, hTh] at this
    exact this
  have hrow : ∀ j : Nat, j < n.toNatClampNeg → F.heap[H.size + 1 + j]? = some (vp_cell cy z) := fun j hj => by
    have := Jvm.Free.Multi.fill_inner (T.setVm vm₁) cA cy n.toNatClampNeg k.toNatClampNeg (defaultValue ty) n.toNatClampNeg j hj
    rw [hF, hTh, hz] at this
    exact this
  have hout : Jvm.Free.Multi.outerC cA n.toNatClampNeg H.size n.toNatClampNeg = vp_cell cA (n.toNatClampNeg, .inr (.inr (.inr (.inr (fun i => if i < n.toNatClampNeg then some (H.size + 1 + i) else none))))) := by
    rw [vp_cell_q]
    exact vr_outer cA n.toNatClampNeg H.size n.toNatClampNeg
  rw [hout] at f2
  have hlt : ∀ a, a ∈ L → a < H.size := fun a ha => by
    obtain ⟨k9, hk9⟩ := va_pl_get (X := X) (f := f) ha
    exact (hP k9 _ hk9).lt
  have hnl : ∀ i : Nat, i < n.toNatClampNeg → H.size + 1 + i ∉ L := fun i _ h => by
    have := hlt _ h
    omega
  have hnm : ∀ a, a ∈ (List.range n.toNatClampNeg).map (fun i => H.size + 1 + i) → a ∉ L := fun a ha h => by
    obtain ⟨i, -, rfl⟩ := List.mem_map.mp ha
    have := hlt _ h
    omega
  have hP0 : va_P D cl (X ++ va_pl L f) F.heap := hP.kept (fun k9 x hx => hold x.1 ((hP k9 x hx).lt))
  have hP1 : va_P D cl ((X ++ va_pl L f) ++ [(H.size, .inl (cA, n.toNatClampNeg, .inr (.inr (.inr (.inr (fun i => if i < n.toNatClampNeg then some (H.size + 1 + i) else none))))))]) F.heap := hP0.app (fun k9 x hx => by
    have h0 : k9 < 1 := (List.getElem?_eq_some_iff.mp hx).1
    rw [show k9 = 0 by omega] at hx
    cases hx
    exact f2)
  have hP2 : va_P D cl (((X ++ va_pl L f) ++ [(H.size, .inl (cA, n.toNatClampNeg, .inr (.inr (.inr (.inr (fun i => if i < n.toNatClampNeg then some (H.size + 1 + i) else none))))))]) ++ ((List.range n.toNatClampNeg).map (fun i => H.size + 1 + i)).map (fun a => (a, .inl (cy, z)))) F.heap := hP1.app (fun k9 x hx => by
    obtain ⟨a, ha, rfl⟩ := List.mem_map.mp (List.mem_of_getElem? hx)
    obtain ⟨i, hi, rfl⟩ := List.mem_map.mp ha
    exact hrow i (List.mem_range.mp hi))
  have hD2 : va_D A (((X ++ va_pl L f) ++ [(H.size, .inl (cA, n.toNatClampNeg, .inr (.inr (.inr (.inr (fun i => if i < n.toNatClampNeg then some (H.size + 1 + i) else none))))))]) ++ ((List.range n.toNatClampNeg).map (fun i => H.size + 1 + i)).map (fun a => (a, .inl (cy, z)))) := by
    have hD1 := hD.push (e := .inl (cA, n.toNatClampNeg, .inr (.inr (.inr (.inr (fun i => if i < n.toNatClampNeg then some (H.size + 1 + i) else none)))))) hP rfl (hA _ hS.1)
    generalize hW1 : (X ++ va_pl L f) ++ [(H.size, .inl (cA, n.toNatClampNeg, .inr (.inr (.inr (.inr (fun i => if i < n.toNatClampNeg then some (H.size + 1 + i) else none))))))] = W1 at hD1 hP1 ⊢
    have hle : ∀ (k9 : Nat) (x : Nat × va_E), W1[k9]? = some x → x.1 ≤ H.size := fun k9 x hx => by
      rw [← hW1] at hx
      by_cases hl : k9 < (X ++ va_pl L f).length
      · rw [List.getElem?_append_left hl] at hx
        exact Nat.le_of_lt ((hP k9 x hx).lt)
      · rw [List.getElem?_append_right (by omega)] at hx
        have h0 : k9 - (X ++ va_pl L f).length < 1 := (List.getElem?_eq_some_iff.mp hx).1
        rw [show k9 - (X ++ va_pl L f).length = 0 by omega] at hx
        cases hx
        exact Nat.le_refl _
    have hr : ∀ (k9 : Nat) (x : Nat × va_E), (((List.range n.toNatClampNeg).map (fun i => H.size + 1 + i)).map (fun a => ((a, .inl (cy, z)) : Nat × va_E)))[k9]? = some x → x.1 = H.size + 1 + k9 := fun k9 x hx => by
      rw [List.getElem?_map, List.getElem?_map] at hx
      by_cases h9 : k9 < n.toNatClampNeg
      · rw [List.getElem?_range h9] at hx
        cases hx
        rfl
      · have hn0 : (List.range n.toNatClampNeg)[k9]? = none := List.getElem?_eq_none (by rw [List.length_range]; omega)
        rw [hn0] at hx
        cases hx
    refine ⟨fun i j x y hi hj hxy => ?_, fun k9 x hx => ?_⟩
    · by_cases h1 : i < W1.length <;> by_cases h2 : j < W1.length
      · rw [List.getElem?_append_left h1] at hi
        rw [List.getElem?_append_left h2] at hj
        exact hD1.1 i j x y hi hj hxy
      · rw [List.getElem?_append_left h1] at hi
        rw [List.getElem?_append_right (by omega)] at hj
        have := hle _ _ hi
        have := hr _ _ hj
        omega
      · rw [List.getElem?_append_right (by omega)] at hi
        rw [List.getElem?_append_left h2] at hj
        have := hle _ _ hj
        have := hr _ _ hi
        omega
      · rw [List.getElem?_append_right (by omega)] at hi hj
        have := hr _ _ hi
        have := hr _ _ hj
        omega
    · by_cases h1 : k9 < W1.length
      · rw [List.getElem?_append_left h1] at hx
        exact hD1.2 k9 x hx
      · rw [List.getElem?_append_right (by omega)] at hx
        have := hr _ _ hx
        exact hA _ (by have := hS.1; omega)
  have hAr : ArrOfT s cA (.array ty) := fun N9 z9 => by
    obtain ⟨-, k9, hk9, cm9, hkk9⟩ := (hO 0 0 0).1
    exact ⟨(fun q hq => by cases hq), k9, hk9, cm9, hkk9⟩
  have hK2 : va_K D cl (tys ++ [(cA, .array ty)]) s := ⟨hK.1, fun k9 x hx => by
    by_cases hl : k9 < tys.length
    · rw [List.getElem?_append_left hl] at hx
      exact hK.2 k9 x hx
    · rw [List.getElem?_append_right (by omega)] at hx
      have h0 : k9 - tys.length < 1 := (List.getElem?_eq_some_iff.mp hx).1
      rw [show k9 - tys.length = 0 by omega] at hx
      cases hx
      exact ⟨hAr, fA⟩⟩
  obtain ⟨t, a1, b1⟩ := kk H.size (fun i => H.size + 1 + i) cA F.heap (fun i j _ _ h => by have h9 : H.size + 1 + i = H.size + 1 + j := h; omega) hnl hK2 (by rw [← vr_rows hnm]; exact vr_lay hP2) (by rw [← vr_rows hnm]; exact vr_layD hD2) ⟨by rw [f1]; have := hS.1; omega, fun x h1 h2 => (hold x (Nat.lt_of_lt_of_le h1 hS.1)).trans (hS.2.1 x h1 h2), hS.2.2⟩ F rfl X'
  refine ⟨t, step t ?_, b1⟩
  have e : T.heap.size = H.size := by rw [hT]
  rw [e]
  exact a1
end VGM
/-! ===== END ===== -/

/-! ===== BEGIN exceptions that leave a method, and their catching by the caller (launches without stack traces) ===== -/
section VXA
/-! The laws vx_back, vx_callV, vx_callS, vx_callSW, vx_throw0, vx_throwS follow proofs of the library, with one case more: JvmDerived/Free/Laws.lean (Back.of_free), Shelf42/LK1.lean (callV, callS), Shelf/KitTraced.lean (throwNew0V, throwNewS). -/
/-- where a method has thrown q: the class by its name, the cell, what was written, the world -/
def vx_T (XC : String → State → State → Prop) (st : State) (q : Addr) (t : State) (mc ms : Nat) (free : Addr → Prop) : Prop :=
  ∃ (E : String) (ce : Cell) (L : List Loc), XC E st t ∧ t.heap[q]? = some ce ∧ ce.vm = .none ∧ st.vm.findClass E = some ce.cls ∧ st.WarmedH t.vm ∧ st.sameButNew ({ t with vm := st.vm } : State) L mc ms ∧ ∀ z ∈ L, free z.base
def vx_Q (Qc : Array Value → State → Outcome → State → Prop) (XC : String → State → State → Prop) (mc ms : Nat) (free : Addr → Prop) : Array Value → State → Outcome → State → Prop := fun a st o t =>
  (Qc a st o t ∧ ∃ L, FrameEnd st o t L mc ms ∧ ∀ q ∈ L, free q.base) ∨ ∃ q, o = .threw q ∧ vx_T XC st q t mc ms free
/-- a callee that returns or throws -/
def vx_Met (l : Launch) (y : MethodName) (ws : List Cond) (rm : Room) (Pc : Array Value → State → Prop) (Qc : Array Value → State → Outcome → State → Prop) (XC : String → State → State → Prop) (mc ms : Nat) (free : Addr → Prop) : Prop :=
  MetFree l y (headSpec ws rm) Pc (fun _ _ _ _ _ => True) (vx_Q Qc XC mc ms free)
def vx_Post (XC : String → State → State → Prop) (mc ms : Nat) (free : Addr → Prop) : Pt → Array Value → Addr → Pt → Prop := fun A a q B =>
  ∃ (g : JFrame) (mk : MethodId) (t : State) (L : List Loc) (E : String) (ce : Cell), B.U.heap = t.heap ∧ B.U.vm = t.vm ∧ XC E (A.U.calling g mk a) t ∧ t.heap[q]? = some ce ∧ ce.vm = .none ∧ A.U.vm.findClass E = some ce.cls ∧ B.locs = A.locs ++ L ∧ (∀ z ∈ L, free z.base) ∧ B.cells = A.cells + mc ∧ B.slots = A.slots + ms
def vx_Back (l : Launch) (R : Room) (p : Program) (e : Env) (below : List Frame) (s : State) (sargs : Array Value) (y : MethodName) (len W9 : Nat)
    (Pre : Pt → Array Value → Prop) (Post : Pt → Array Value → Option Value → Pt → Prop) (PostX : Pt → Array Value → Addr → Pt → Prop) : Prop :=
  ∀ (m : MethodId) (meth : Method) (c : Code) (A : Pt) (g : JFrame) (ig : Instr) (mk : MethodId) (a : Array Value),
    Stand p l e R s m sargs below meth c A.U A.locs A.cells A.slots → g.method = m → g.locals.size = c.maxLocals → decode c.code g.pc = .ok (ig, len) →
    2 * g.monitorRoom + (g.stack.map fun v => v.category).sum ≤ W9 → A.U.methodNamed? y = some mk → Pre A a →
    (∃ (v : Option Value) (B : Pt), Stand p l e R s m sargs below meth c B.U B.locs B.cells B.slots ∧ Post A a v B ∧
      Steps p.tables e below (doInvoke e (A.U.setTop g) [] mk a).1 (B.U.setTop { g with pc := g.pc + len, stack := v.toList ++ g.stack })) ∨
    (∃ (q : Addr) (B : Pt), Stand p l e R s m sargs below meth c B.U B.locs B.cells B.slots ∧ PostX A a q B ∧
      Steps p.tables e below (doInvoke e (A.U.setTop g) [] mk a).1 ((B.U.setTop g).pushFrame (.throwing q)))
section Payer
variable {l : Launch} {R : Room} {p : Program} {e : Env} {below : List Frame} {s : State} {sargs : Array Value} {y : MethodName} {len W9 : Nat}
theorem vx_back {ws : List Cond} {rm : Room} {Pc : Array Value → State → Prop} {Qc : Array Value → State → Outcome → State → Prop} {XC : String → State → State → Prop} {mc ms : Nat} {free : Addr → Prop} {bytes : ByteArray} {maxL : Nat} {ret : Option FieldType}
    (hM : vx_Met l y ws rm Pc Qc XC mc ms free) (hblind : FrameBlind Pc) (hrc : rm.cells = mc) (hrs : rm.slots = ms)
    (hframes : rm.frames + 1 ≤ R.frames) (hlocals : W9 + (maxL + 11) + rm.locals ≤ R.locals)
    (hws : ∀ w ∈ ws, ∀ a' U, s.WarmedH U.vm → w.before a' U = true) (hcode : Cond.code y bytes maxL ret ∈ ws) (hinit : ∀ a' U, s.WarmedH U.vm → (Cond.initialized y.cls).before a' U = true) :
    vx_Back l R p e below s sargs y len W9 (PreOf R mc ms Pc) (PostOf Qc mc ms free) (vx_Post XC mc ms free) := by
  intro m meth c A g ig mk a X hg hsize hdg hW hn hp
  have h1 : (headSpec ws rm).pre.before a A.U = true := atoms_intro fun w hw => hws w hw _ _ X.warmed
  have h2 : (Cond.code y bytes maxL ret).before a A.U = true := hws _ hcode _ _ X.warmed
  have h3 : (Cond.initialized y.cls).before a A.U = true := hinit _ _ X.warmed
  have h4 : A.cells + (headSpec ws rm).room.cells ≤ R.cells := by rw [show (headSpec ws rm).room.cells = mc from hrc]; exact hp.1
  have h5 : A.slots + (headSpec ws rm).room.slots ≤ R.slots := by rw [show (headSpec ws rm).room.slots = ms from hrs]; exact hp.2.1
  have hPc : Pc a (A.U.calling g mk a) := hblind _ _ _ _ hp.2.2
  obtain ⟨U, Ls, c0, s0⟩ := A
  dsimp only [Pt.U, Pt.locs, Pt.cells, Pt.slots] at h1 h2 h3 h4 h5 X hn hPc ⊢
  obtain ⟨methY, cY, hmY, hcY, -, hlY, -, -, -, -⟩ := Cond.code_spec hn h2
  obtain ⟨kY, hkY, -⟩ := className_of_methodNamed hn
  have hinitY : kY.init = .initialized := Cond.initialized_spec (findClass_of_methodNamed hn) hkY h3
  have h : At U g.method c below := by rw [hg]; exact X.here
  have hlocals9 : W9 + (maxL + 11) + (headSpec ws rm).room.locals ≤ R.locals := hlocals
  have happ : (headSpec ws rm).appliesLoose y e.platform (U.calling g mk a) = true :=
    Spec.appliesLoose_calling (g := g) h hdg hn hkY hinitY
      (X.room_calling (g := g) (R' := (headSpec ws rm).room) hsize hmY hcY hframes (by rw [hlY]; omega) h4 h5) h1
  obtain ⟨mid, hmid⟩ := h.above
  have hfr : (U.setTop g).frames = (.java g :: mid) ++ below := by rw [State.frames_setTop' g h.top, hmid]; rfl
  obtain ⟨o, s₂, hsteps, -, hend, hq⟩ := Steps.callFree hM p X.admits X.cas X.clock (acts := []) hfr happ hPc trivial
  have hq' : vx_Q Qc XC mc ms free a (U.calling g mk a) o s₂ := hq
  rw [State.frames_setTop' g h.top] at hend
  obtain ⟨g₀, hg0⟩ := Option.isSome_iff_exists.mp h.top
  obtain ⟨r, hr⟩ := State.topJava?_eq_some.mp hg0
  have hr' : (({ U with heap := s₂.heap, slotsUsed := s₂.slotsUsed } : State).setVm s₂.vm).frames = .java g₀ :: r := hr
  rcases hq' with ⟨hqc, L, hfe, hL⟩ | ⟨q, rfl, E, ce, L, hx, hce, hcv, hcl, hW₂, hsm, hL⟩
  · obtain ⟨⟨v, rfl⟩, hW₂, e2, q2, q3, q4, q5, q6⟩ := id hfe
    have e3 : s₂ = ({ (U.calling g mk a).setFrames s₂.frames with heap := s₂.heap, slotsUsed := s₂.slotsUsed } : State).setVm s₂.vm := by
      have : s₂ = ({ s₂ with vm := (U.calling g mk a).vm } : State).setVm s₂.vm := rfl
      rw [e2] at this
      exact this
    obtain ⟨c₂, i₂, len₂, hc₂, hd₂, hf₂⟩ := hend
    have hW' : U.WarmedH s₂.vm := hW₂
    have hcc : c₂ = c := by
      have h1 : s₂.code? g.method = U.code? g.method := by
        rw [State.code?_eq, State.code?_eq, hW'.alike.method?]
      exact Option.some.inj (hc₂.symm.trans (h1.trans h.code))
    subst hcc
    have hlen : len₂ = len := by rw [hdg] at hd₂; cases hd₂; rfl
    subst hlen
    have hs₂ : s₂ = (({ U with heap := s₂.heap, slotsUsed := s₂.slotsUsed } : State).setVm s₂.vm).setTop { g with pc := g.pc + len₂, stack := v.toList ++ g.stack } := by
      refine e3.trans ?_
      rw [hf₂, State.calling_eq h.top, State.setFrames_setFrames, State.setTop_of_frames _ hr', hr]
      rfl
    have hsame : U.sameButNew ({ U with heap := s₂.heap, slotsUsed := s₂.slotsUsed } : State) L mc ms := by
      refine ⟨?_, q2, q3, q4, q5, q6⟩
      obtain ⟨t, ht, -⟩ := State.frames_cons hr
      show ({ U with heap := s₂.heap, slotsUsed := s₂.slotsUsed } : State) = { U.setFrames U.frames with heap := s₂.heap, slotsUsed := s₂.slotsUsed }
      rw [State.setFrames_self ht]
    subst hg
    refine Or.inl ⟨v, ⟨(({ U with heap := s₂.heap, slotsUsed := s₂.slotsUsed } : State).setVm s₂.vm), Ls ++ L, c0 + mc, s0 + ms⟩,
      ⟨X.admits, X.cas, X.clock, X.frames, X.room, X.hears, X.method, X.code, (X.here.setHeapUsed s₂.heap s₂.slotsUsed).setVm hW'.alike, X.tail, State.WarmedH.trans X.warmed hW', X.limits, X.bytes, X.same.trans (hsame.setVm s.vm)⟩,
      ⟨g, mk, s₂, L, rfl, rfl, hqc, rfl, hL, rfl, rfl⟩, ?_⟩
    show Steps p.tables e below _ ((({ U with heap := s₂.heap, slotsUsed := s₂.slotsUsed } : State).setVm s₂.vm).setTop { g with pc := g.pc + len₂, stack := v.toList ++ g.stack })
    rw [← hs₂]
    exact hsteps
  · obtain ⟨e2, q2, q3, q4, q5, q6⟩ := id hsm
    have e3 : s₂ = ({ (U.calling g mk a).setFrames s₂.frames with heap := s₂.heap, slotsUsed := s₂.slotsUsed } : State).setVm s₂.vm := by
      have : s₂ = ({ s₂ with vm := (U.calling g mk a).vm } : State).setVm s₂.vm := rfl
      rw [e2] at this
      exact this
    have hf₂ : s₂.frames = .throwing q :: .java g :: U.frames.tail := hend
    have hW' : U.WarmedH s₂.vm := hW₂
    have hs₂ : s₂ = ((({ U with heap := s₂.heap, slotsUsed := s₂.slotsUsed } : State).setVm s₂.vm).setTop g).pushFrame (.throwing q) := by
      refine e3.trans ?_
      rw [hf₂, State.calling_eq h.top, State.setFrames_setFrames, State.pushFrame, State.frames_setTop _ hr', State.setTop_of_frames _ hr', State.setFrames_setFrames, hr]
      rfl
    have hsame : U.sameButNew ({ U with heap := s₂.heap, slotsUsed := s₂.slotsUsed } : State) L mc ms := by
      refine ⟨?_, q2, q3, q4, q5, q6⟩
      obtain ⟨t, ht, -⟩ := State.frames_cons hr
      show ({ U with heap := s₂.heap, slotsUsed := s₂.slotsUsed } : State) = { U.setFrames U.frames with heap := s₂.heap, slotsUsed := s₂.slotsUsed }
      rw [State.setFrames_self ht]
    subst hg
    refine Or.inr ⟨q, ⟨(({ U with heap := s₂.heap, slotsUsed := s₂.slotsUsed } : State).setVm s₂.vm), Ls ++ L, c0 + mc, s0 + ms⟩,
      ⟨X.admits, X.cas, X.clock, X.frames, X.room, X.hears, X.method, X.code, (X.here.setHeapUsed s₂.heap s₂.slotsUsed).setVm hW'.alike, X.tail, State.WarmedH.trans X.warmed hW', X.limits, X.bytes, X.same.trans (hsame.setVm s.vm)⟩,
      ⟨g, mk, s₂, L, E, ce, rfl, rfl, hx, hce, hcv, hcl, rfl, hL, rfl, rfl⟩, ?_⟩
    show Steps p.tables e below _ (((({ U with heap := s₂.heap, slotsUsed := s₂.slotsUsed } : State).setVm s₂.vm).setTop g).pushFrame (.throwing q))
    rw [← hs₂]
    exact hsteps
end Payer
section Calls
variable {p : Program} {l : Launch} {e : Env} {R : Room} {s : State} {m : MethodId} {args : Array Value} {below : List Frame} {meth : Method} {c : Code} {T : State} {locs : List Loc} {cells slots : Nat}
theorem vx_callV (X : Stand p l e R s m args below meth c T locs cells slots) (hexec : p.tables.exec = Jvm.exec) {own C : String} {index : Nat} {y : MethodName} {bytes : ByteArray} {maxL : Nat} {ret : Option FieldType}
    (hown : s.vm.findClass own = some m.cls) (hlink : (Cond.methodLink own index y).before args s = true) (hinst : (Cond.instanceMethod y).before args s = true) (hsel : (Cond.selects C y y).before args s = true)
    (hcode : (Cond.code y bytes maxL ret).before args s = true) (hy : y.cls ≠ "java/lang/invoke/MethodHandle" ∧ y.cls ≠ "java/lang/invoke/VarHandle")
    {W9 : Nat} {Pre : Pt → Array Value → Prop} {Post : Pt → Array Value → Option Value → Pt → Prop} {PostX : Pt → Array Value → Addr → Pt → Prop} (hK : vx_Back l R p e below s args y 3 W9 Pre Post PostX)
    {b : Addr} {cellB : Cell} (hcell : T.heap[b]? = some cellB) (hobj : cellB.vm.isStatics = false) (hcls : s.vm.findClass C = some cellB.cls)
    {g : JFrame} (hg : g.method = m) (hsize : g.locals.size = c.maxLocals) {argsL rest : List Value} (hlen : ∀ sig, parseMethodDescriptor y.desc = some sig → argsL.length = sig.parameters.length)
    (hstack : g.stack = argsL.reverse ++ .ref b :: rest) (hW : 2 * g.monitorRoom + (rest.map fun v => v.category).sum ≤ W9) (hdg : decode c.code g.pc = .ok (.invokevirtual index, 3))
    (hpre : ∀ vm₁, s.WarmedH vm₁ → Pre ⟨T.setVm vm₁, locs, cells, slots⟩ (Value.ref b :: argsL).toArray) :
    (∃ (v : Option Value) (vm₁ : Vm) (B : Pt), s.WarmedH vm₁ ∧ Stand p l e R s m args below meth c B.U B.locs B.cells B.slots ∧ Post ⟨T.setVm vm₁, locs, cells, slots⟩ (Value.ref b :: argsL).toArray v B ∧
      ∀ target, Steps p.tables e below (B.U.setTop { g with pc := g.pc + 3, stack := v.toList ++ rest }) target → Steps p.tables e below (T.setTop g) target) ∨
    (∃ (q : Addr) (vm₁ : Vm) (B : Pt), s.WarmedH vm₁ ∧ Stand p l e R s m args below meth c B.U B.locs B.cells B.slots ∧ PostX ⟨T.setVm vm₁, locs, cells, slots⟩ (Value.ref b :: argsL).toArray q B ∧
      Steps p.tables e below (T.setTop g) ((B.U.setTop { g with stack := rest }).pushFrame (.throwing q))) := by
  obtain ⟨mk, methM, hnamed, hmethM, hstM, habM⟩ := Cond.instanceMethod_spec hinst
  obtain ⟨methM', cM, hmethM', -, -, -, -, -, -, hsigM⟩ := Cond.code_spec hnamed hcode
  cases hmethM.symm.trans hmethM'
  obtain ⟨c2, r2, m2, q1, q2, q3, q4, kP, hkP, hkPi⟩ := Cond.selects_spec hsel
  cases hcls.symm.trans q1
  cases (State.methodFound?_of_named hnamed hy).symm.trans q2
  cases hnamed.symm.trans q3
  have hselP : selectMethod e.platform s.vm cellB.cls mk = .method mk := by rw [Launch.admits_selectMethod X.admits]; exact q4
  obtain ⟨vm₁, X₁, hstep₁⟩ := X.invokevirtual hexec hown hlink hnamed hmethM hstM hkP hkPi hy (a := b) (cell := cellB) hcell
    (fun z h => by rw [h] at hobj; cases hobj) hselP hmethM habM hkP hkPi (g := g) hg (argsL := argsL) (rest := rest) (hlen _ hsigM) hstack hdg
  rcases hK m meth c ⟨T.setVm vm₁, locs, cells, slots⟩ { g with stack := rest } (.invokevirtual index) mk (Value.ref b :: argsL).toArray X₁ hg hsize hdg hW (X₁.named hnamed) (hpre vm₁ X₁.warmed) with ⟨v, B, X', hpost, hsteps⟩ | ⟨q, B, X', hpost, hsteps⟩
  · exact Or.inl ⟨v, vm₁, B, X₁.warmed, X', hpost, fun target h => hstep₁ _ fun acts => by rw [doInvoke_state]; exact hsteps.trans h⟩
  · exact Or.inr ⟨q, vm₁, B, X₁.warmed, X', hpost, hstep₁ _ fun acts => by rw [doInvoke_state]; exact hsteps⟩
theorem vx_callS (X : Stand p l e R s m args below meth c T locs cells slots) (hexec : p.tables.exec = Jvm.exec) {own : String} {index : Nat} {y : MethodName} {bytes : ByteArray} {maxL : Nat} {ret : Option FieldType}
    (hown : s.vm.findClass own = some m.cls) (hlink : (Cond.methodLink own index y).before args s = true) (hstat : (Cond.static y).before args s = true) (hinit : (Cond.initialized y.cls).before args s = true)
    (hcode : (Cond.code y bytes maxL ret).before args s = true) (hy : y.cls ≠ "java/lang/invoke/MethodHandle" ∧ y.cls ≠ "java/lang/invoke/VarHandle")
    {W9 : Nat} {Pre : Pt → Array Value → Prop} {Post : Pt → Array Value → Option Value → Pt → Prop} {PostX : Pt → Array Value → Addr → Pt → Prop} (hK : vx_Back l R p e below s args y 3 W9 Pre Post PostX)
    {g : JFrame} (hg : g.method = m) (hsize : g.locals.size = c.maxLocals) {argsL rest : List Value} (hlen : ∀ sig, parseMethodDescriptor y.desc = some sig → argsL.length = sig.parameters.length)
    (hstack : g.stack = argsL.reverse ++ rest) (hW : 2 * g.monitorRoom + (rest.map fun v => v.category).sum ≤ W9) (hdg : decode c.code g.pc = .ok (.invokestatic index, 3))
    (hpre : ∀ vm₁, s.WarmedH vm₁ → Pre ⟨T.setVm vm₁, locs, cells, slots⟩ argsL.toArray) :
    (∃ (v : Option Value) (vm₁ : Vm) (B : Pt), s.WarmedH vm₁ ∧ Stand p l e R s m args below meth c B.U B.locs B.cells B.slots ∧ Post ⟨T.setVm vm₁, locs, cells, slots⟩ argsL.toArray v B ∧
      ∀ target, Steps p.tables e below (B.U.setTop { g with pc := g.pc + 3, stack := v.toList ++ rest }) target → Steps p.tables e below (T.setTop g) target) ∨
    (∃ (q : Addr) (vm₁ : Vm) (B : Pt), s.WarmedH vm₁ ∧ Stand p l e R s m args below meth c B.U B.locs B.cells B.slots ∧ PostX ⟨T.setVm vm₁, locs, cells, slots⟩ argsL.toArray q B ∧
      Steps p.tables e below (T.setTop g) ((B.U.setTop { g with stack := rest }).pushFrame (.throwing q))) := by
  obtain ⟨mk, hnamed⟩ := Cond.code_named hcode
  obtain ⟨methM, cM, hmethM, -, -, -, -, -, -, hsigM⟩ := Cond.code_spec hnamed hcode
  have hstatic : methM.isStatic = true := Cond.static_spec hnamed hmethM hstat
  obtain ⟨kP, hkP, -⟩ := className_of_methodNamed hnamed
  have hinitP : kP.init = .initialized := Cond.initialized_spec (findClass_of_methodNamed hnamed) hkP hinit
  obtain ⟨vm₁, X₁, hstep₁⟩ := X.invokestatic hexec hown hlink hnamed hmethM hstatic hkP hinitP hy (g := g) hg (argsL := argsL) (rest := rest) (hlen _ hsigM) hstack hdg
  rcases hK m meth c ⟨T.setVm vm₁, locs, cells, slots⟩ { g with stack := rest } (.invokestatic index) mk argsL.toArray X₁ hg hsize hdg hW (X₁.named hnamed) (hpre vm₁ X₁.warmed) with ⟨v, B, X', hpost, hsteps⟩ | ⟨q, B, X', hpost, hsteps⟩
  · exact Or.inl ⟨v, vm₁, B, X₁.warmed, X', hpost, fun target h => hstep₁ _ fun acts => by rw [doInvoke_state]; exact hsteps.trans h⟩
  · exact Or.inr ⟨q, vm₁, B, X₁.warmed, X', hpost, hstep₁ _ fun acts => by rw [doInvoke_state]; exact hsteps⟩
end Calls
theorem vx_cls {s : State} {T : State} {vm₁ : Vm} {E : String} {k : ClassId} (hW : s.WarmedH vm₁) (h : (T.setVm vm₁).vm.findClass E = some k) : s.vm.findClass E = some k := by
  have h1 : vm₁.findClass E = some k := h
  rw [hW.alike.findClass] at h1
  exact h1
/-- the method's frame g, with q thrown over it -/
def vx_W (p : Program) (l : Launch) (e : Env) (R : Room) (s : State) (m : MethodId) (args : Array Value) (below : List Frame) (meth : Method) (c : Code) (H : Heap) (locs : List Loc) (cells slots : Nat) (Q : State → Prop) (g : JFrame) (q : Addr) : Prop :=
  ∀ T : State, T.heap = H → Stand p l e R s m args below meth c T locs cells slots → ∃ t, Steps p.tables e below ((T.setTop g).pushFrame (.throwing q)) t ∧ Q t
def vx_Run (p : Program) (l : Launch) (e : Env) (R : Room) (s : State) (m : MethodId) (args : Array Value) (below : List Frame) (meth : Method) (c : Code) (H : Heap) (locs : List Loc) (cells slots mc ms : Nat) (g : JFrame) (rest : List Value) (Qa : State → Outcome → State → Prop) (XC : String → State → State → Prop) (free : Addr → Prop) : Prop :=
  ∀ T : State, T.heap = H → Stand p l e R s m args below meth c T locs cells slots →
    (∃ (v : Option Value) (st₀ t T' : State) (L : List Loc), st₀.heap = H ∧ Stand p l e R s m args below meth c T' (locs ++ L) (cells + mc) (slots + ms) ∧ (∀ q ∈ L, free q.base) ∧ T'.heap = t.heap ∧ T'.vm = t.vm ∧ Qa st₀ (.returned v) t ∧
      Goes p e below T g T' { g with pc := g.pc + 3, stack := v.toList ++ rest }) ∨
    (∃ (q : Addr) (st₀ t T' : State) (L : List Loc) (E : String) (ce : Cell), st₀.heap = H ∧ Stand p l e R s m args below meth c T' (locs ++ L) (cells + mc) (slots + ms) ∧ (∀ z ∈ L, free z.base) ∧ T'.heap = t.heap ∧ T'.vm = t.vm ∧ XC E st₀ t ∧ t.heap[q]? = some ce ∧ ce.vm = .none ∧ s.vm.findClass E = some ce.cls ∧
      Steps p.tables e below (T.setTop g) ((T'.setTop { g with stack := rest }).pushFrame (.throwing q)))
def vx_X {S : Type} (px : S → Prop) (B : String → S → State → Prop) (A : Nat → Prop) : String → State → State → Prop := fun E st t => ∃ u : S, px u ∧ B E u t ∧ va_F A st t
section Runs
variable {p : Program} {l : Launch} {e : Env} {R : Room} {s : State} {m : MethodId} {args : Array Value} {below : List Frame} {meth : Method} {c : Code} {H : Heap} {locs : List Loc} {cells slots : Nat}
variable {y : MethodName} {bytes cc : ByteArray} {maxL nL mc ms n index : Nat} {ret : Option FieldType} {ws : List Cond} {rm : Room} {Pc : Array Value → State → Prop} {Qc : Array Value → State → Outcome → State → Prop} {XC : String → State → State → Prop} {free : Addr → Prop} {Ts : List Cond} {own C : String} {b : Addr} {As rest : List Value} {g : JFrame}
theorem vx_callBack (cb : CallB R s args own index y bytes maxL ret ws rm mc ms n) (hM : vx_Met l y ws rm Pc Qc XC mc ms free) (hbl : FrameBlind Pc) : vx_Back l R p e below s args y 3 8 (PreOf R mc ms Pc) (PostOf Qc mc ms free) (vx_Post XC mc ms free) := by
  obtain ⟨hrc, hrs, hfr, hlo, hws, hcw, -, hini, -⟩ := cb
  exact vx_back (bytes := bytes) (maxL := maxL) (ret := ret) hM hbl hrc hrs hfr hlo hws hcw (fun a' U hW => word_at hW (Or.inl (by first | rfl | simp [Cond.onTables, Cond.keeps, Cond.steady])) hini)
theorem vx_runV (S : CallFix p m c cc nL s args Ts own) (hM : vx_Met l y ws rm Pc Qc XC mc ms free) (cw : CallW R s args own C index y bytes maxL ret ws rm mc ms n) (hp : PreV s H C b Pc As)
    (hg : g.method = m) (hn : As.length = n) (hsize : g.locals.size = nL) (hstack : g.stack = As.reverse ++ .ref b :: rest) (hW : 2 * g.monitorRoom + (rest.map fun v => v.category).sum ≤ 8) (hdg : decode cc g.pc = .ok (.invokevirtual index, 3)) (hf : cells + mc ≤ R.cells ∧ slots + ms ≤ R.slots) :
    vx_Run p l e R s m args below meth c H locs cells slots mc ms g rest (Qc (Value.ref b :: As).toArray) XC free := by
  have hK : vx_Back l R p e below s args y 3 8 (PreOf R mc ms Pc) (PostOf Qc mc ms free) (vx_Post XC mc ms free) := vx_callBack cw.1 hM hp.1
  obtain ⟨⟨-, -, -, -, -, -, hcode, -, hy, hlen, hl⟩, hin, hse⟩ := cw
  obtain ⟨hx, hb, hml, ho, -⟩ := S
  obtain ⟨-, ⟨cellB, hcB, hoB, hclB⟩, hPc⟩ := hp
  intro T hT X
  rcases vx_callV X hx (C := C) (bytes := bytes) (maxL := maxL) (ret := ret) ho hl hin hse hcode hy hK (by rw [hT]; exact hcB) hoB hclB hg (hsize.trans hml.symm) (argsL := As) (rest := rest) (fun sig h => hn.trans (hlen sig h)) hstack hW (by rw [hb]; exact hdg)
    (fun vm₁ hW₁ => ⟨hf.1, hf.2, hPc (T.setVm vm₁) hT hW₁⟩) with ⟨v, vm₁, ⟨U', l2, c2, s2⟩, hW₁, X', ⟨g', mk, t, L, e1, e2, hq, h1, hL, h2, h3⟩, st⟩ | ⟨q, vm₁, ⟨U', l2, c2, s2⟩, hW₁, X', ⟨g', mk, t, L, E, ce, e1, e2, hq, hce, hcv, hcl, h1, hL, h2, h3⟩, st⟩
  · dsimp only [Pt.U, Pt.locs, Pt.cells, Pt.slots] at X' e1 e2 h1 h2 h3 st
    subst h1; subst h2; subst h3
    exact Or.inl ⟨v, (T.setVm vm₁).calling g' mk (Value.ref b :: As).toArray, t, U', L, hT, X', hL, e1, e2, hq, st⟩
  · dsimp only [Pt.U, Pt.locs, Pt.cells, Pt.slots] at X' e1 e2 h1 h2 h3 st hcl
    subst h1; subst h2; subst h3
    exact Or.inr ⟨q, (T.setVm vm₁).calling g' mk (Value.ref b :: As).toArray, t, U', L, E, ce, hT, X', hL, e1, e2, hq, hce, hcv, vx_cls hW₁ hcl, st⟩
theorem vx_runS (S : CallFix p m c cc nL s args Ts own) (hM : vx_Met l y ws rm Pc Qc XC mc ms free) (cw : CallB R s args own index y bytes maxL ret ws rm mc ms n ∧ (Cond.static y).before args s = true) (hp : PreS s H Pc As)
    (hg : g.method = m) (hn : As.length = n) (hsize : g.locals.size = nL) (hstack : g.stack = As.reverse ++ rest) (hW : 2 * g.monitorRoom + (rest.map fun v => v.category).sum ≤ 8) (hdg : decode cc g.pc = .ok (.invokestatic index, 3)) (hf : cells + mc ≤ R.cells ∧ slots + ms ≤ R.slots) :
    vx_Run p l e R s m args below meth c H locs cells slots mc ms g rest (Qc As.toArray) XC free := by
  have hK : vx_Back l R p e below s args y 3 8 (PreOf R mc ms Pc) (PostOf Qc mc ms free) (vx_Post XC mc ms free) := vx_callBack cw.1 hM hp.1
  obtain ⟨⟨-, -, -, -, -, -, hcode, hini, hy, hlen, hl⟩, hstt⟩ := cw
  obtain ⟨hx, hb, hml, ho, -⟩ := S
  intro T hT X
  rcases vx_callS X hx (bytes := bytes) (maxL := maxL) (ret := ret) ho hl hstt hini hcode hy hK hg (hsize.trans hml.symm) (argsL := As) (rest := rest) (fun sig h => hn.trans (hlen sig h)) hstack hW (by rw [hb]; exact hdg)
    (fun vm₁ hW₁ => ⟨hf.1, hf.2, hp.2 (T.setVm vm₁) hT hW₁⟩) with ⟨v, vm₁, ⟨U', l2, c2, s2⟩, hW₁, X', ⟨g', mk, t, L, e1, e2, hq, h1, hL, h2, h3⟩, st⟩ | ⟨q, vm₁, ⟨U', l2, c2, s2⟩, hW₁, X', ⟨g', mk, t, L, E, ce, e1, e2, hq, hce, hcv, hcl, h1, hL, h2, h3⟩, st⟩
  · dsimp only [Pt.U, Pt.locs, Pt.cells, Pt.slots] at X' e1 e2 h1 h2 h3 st
    subst h1; subst h2; subst h3
    exact Or.inl ⟨v, (T.setVm vm₁).calling g' mk As.toArray, t, U', L, hT, X', hL, e1, e2, hq, st⟩
  · dsimp only [Pt.U, Pt.locs, Pt.cells, Pt.slots] at X' e1 e2 h1 h2 h3 st hcl
    subst h1; subst h2; subst h3
    exact Or.inr ⟨q, (T.setVm vm₁).calling g' mk As.toArray, t, U', L, E, ce, hT, X', hL, e1, e2, hq, hce, hcv, vx_cls hW₁ hcl, st⟩
end Runs
section Rows
variable {p : Program} {l : Launch} {e : Env} {R : Room} {s : State} {m : MethodId} {args : Array Value} {below : List Frame} {meth : Method} {c : Code} {H : Heap} {locs : List Loc} {cells slots : Nat} {Q : State → Prop}
variable {mc ms : Nat} {free : Addr → Prop} {A0 A1 : Nat → Prop} {H0 : Heap} {a : Array Value} {pc : Nat} {ls : Array Slot} {st0 rest : List Value}
theorem vx_keep {st₀ t T' : State} {L : List Loc} (h0 : st₀.heap = H) (e1 : T'.heap = t.heap) (hS : va_S A0 H0 H locs) (hA : ∀ q, q < H.size → A1 q → A0 q) (hf : ∀ q, free q → A0 q) (hL : ∀ q ∈ L, free q.base) (hF : va_F A1 st₀ t) :
    H.size ≤ T'.heap.size ∧ (∀ q : Nat, q < H.size → ¬ A1 q → T'.heap[q]? = H[q]?) ∧ va_S A0 H0 T'.heap (locs ++ L) := by
  obtain ⟨hz, hk⟩ := hF
  rw [h0] at hz hk
  exact ⟨by rw [e1]; exact hz, fun q h1 h2 => by rw [e1]; exact hk q h1 h2,
    ⟨Nat.le_trans hS.1 (by rw [e1]; exact hz), fun q h1 h2 => by rw [e1, hk q (Nat.lt_of_lt_of_le h1 hS.1) (fun z => h2 (hA q (Nat.lt_of_lt_of_le h1 hS.1) z))]; exact hS.2.1 q h1 h2, fun q hq => by
      rcases List.mem_append.mp hq with h | h
      · exact hS.2.2 q h
      · exact hf _ (hL q h)⟩⟩
theorem vx_calli {S SX : Type} {post : Int32 → S → Prop} {px : SX → Prop} {B : S → State → Prop} {BX : String → SX → State → Prop} {AX : Nat → Prop} (hr : vx_Run p l e R s m args below meth c H locs cells slots mc ms (F0 m pc ls st0) rest (va_Qi post B A1 a) (vx_X px BX AX) free) (hS : va_S A0 H0 H locs) (hA : ∀ q, q < H.size → A1 q → A0 q) (hf : ∀ q, free q → A0 q) (hAX : ∀ q, q < H.size → AX q → A0 q)
    (kx : ∀ (E : String) (ce : Cell) (q9 : Addr) (u : SX) (t : State) (H1 : Heap) (locs1 : List Loc), t.heap = H1 → s.vm.Alike t.vm → px u → BX E u t → H.size ≤ H1.size → (∀ q : Nat, q < H.size → ¬ AX q → H1[q]? = H[q]?) → va_S A0 H0 H1 locs1 → H1[q9]? = some ce → ce.vm = .none → s.vm.findClass E = some ce.cls → vx_W p l e R s m args below meth c H1 locs1 (cells + mc) (slots + ms) Q (F0 m pc ls rest) q9)
    (kk : ∀ (r : Int32) (u : S) (t : State) (H1 : Heap) (locs1 : List Loc), t.heap = H1 → s.vm.Alike t.vm → post r u → B u t → H.size ≤ H1.size → (∀ q : Nat, q < H.size → ¬ A1 q → H1[q]? = H[q]?) → va_S A0 H0 H1 locs1 → W p l e R s m args below meth c H1 locs1 (cells + mc) (slots + ms) Q (F0 m (pc + 3) ls (.int r :: rest))) : W p l e R s m args below meth c H locs cells slots Q (F0 m pc ls st0) := by
  intro T hT X
  rcases hr T hT X with ⟨v, st₀, t, T', L, h0, X', hL, e1, e2, ⟨⟨r, u, hv, hp, hb⟩, hF⟩, st⟩ | ⟨q, st₀, t, T', L, E, ce, h0, X', hL, e1, e2, ⟨u, hp, hb, hF⟩, hce, hcv, hcl, st⟩
  · cases hv
    obtain ⟨k1, k2, k3⟩ := vx_keep h0 e1 hS hA hf hL hF
    obtain ⟨t2, a1, b1⟩ := kk r u t T'.heap (locs ++ L) e1.symm (by rw [← e2]; exact X'.warmed.alike) hp hb k1 k2 k3 T' rfl X'
    exact ⟨t2, st t2 a1, b1⟩
  · obtain ⟨k1, k2, k3⟩ := vx_keep h0 e1 hS hAX hf hL hF
    obtain ⟨t2, a1, b1⟩ := kx E ce q u t T'.heap (locs ++ L) e1.symm (by rw [← e2]; exact X'.warmed.alike) hp hb k1 k2 k3 (by rw [e1]; exact hce) hcv hcl T' rfl X'
    exact ⟨t2, st.trans a1, b1⟩
theorem vx_calll {S SX : Type} {post : Int64 → S → Prop} {px : SX → Prop} {B : S → State → Prop} {BX : String → SX → State → Prop} {AX : Nat → Prop} (hr : vx_Run p l e R s m args below meth c H locs cells slots mc ms (F0 m pc ls st0) rest (va_Ql post B A1 a) (vx_X px BX AX) free) (hS : va_S A0 H0 H locs) (hA : ∀ q, q < H.size → A1 q → A0 q) (hf : ∀ q, free q → A0 q) (hAX : ∀ q, q < H.size → AX q → A0 q)
    (kx : ∀ (E : String) (ce : Cell) (q9 : Addr) (u : SX) (t : State) (H1 : Heap) (locs1 : List Loc), t.heap = H1 → s.vm.Alike t.vm → px u → BX E u t → H.size ≤ H1.size → (∀ q : Nat, q < H.size → ¬ AX q → H1[q]? = H[q]?) → va_S A0 H0 H1 locs1 → H1[q9]? = some ce → ce.vm = .none → s.vm.findClass E = some ce.cls → vx_W p l e R s m args below meth c H1 locs1 (cells + mc) (slots + ms) Q (F0 m pc ls rest) q9)
    (kk : ∀ (r : Int64) (u : S) (t : State) (H1 : Heap) (locs1 : List Loc), t.heap = H1 → s.vm.Alike t.vm → post r u → B u t → H.size ≤ H1.size → (∀ q : Nat, q < H.size → ¬ A1 q → H1[q]? = H[q]?) → va_S A0 H0 H1 locs1 → W p l e R s m args below meth c H1 locs1 (cells + mc) (slots + ms) Q (F0 m (pc + 3) ls (.long r :: rest))) : W p l e R s m args below meth c H locs cells slots Q (F0 m pc ls st0) := by
  intro T hT X
  rcases hr T hT X with ⟨v, st₀, t, T', L, h0, X', hL, e1, e2, ⟨⟨r, u, hv, hp, hb⟩, hF⟩, st⟩ | ⟨q, st₀, t, T', L, E, ce, h0, X', hL, e1, e2, ⟨u, hp, hb, hF⟩, hce, hcv, hcl, st⟩
  · cases hv
    obtain ⟨k1, k2, k3⟩ := vx_keep h0 e1 hS hA hf hL hF
    obtain ⟨t2, a1, b1⟩ := kk r u t T'.heap (locs ++ L) e1.symm (by rw [← e2]; exact X'.warmed.alike) hp hb k1 k2 k3 T' rfl X'
    exact ⟨t2, st t2 a1, b1⟩
  · obtain ⟨k1, k2, k3⟩ := vx_keep h0 e1 hS hAX hf hL hF
    obtain ⟨t2, a1, b1⟩ := kx E ce q u t T'.heap (locs ++ L) e1.symm (by rw [← e2]; exact X'.warmed.alike) hp hb k1 k2 k3 (by rw [e1]; exact hce) hcv hcl T' rfl X'
    exact ⟨t2, st.trans a1, b1⟩
theorem vx_callf {S SX : Type} {post : UInt32 → S → Prop} {px : SX → Prop} {B : S → State → Prop} {BX : String → SX → State → Prop} {AX : Nat → Prop} (hr : vx_Run p l e R s m args below meth c H locs cells slots mc ms (F0 m pc ls st0) rest (va_Qf post B A1 a) (vx_X px BX AX) free) (hS : va_S A0 H0 H locs) (hA : ∀ q, q < H.size → A1 q → A0 q) (hf : ∀ q, free q → A0 q) (hAX : ∀ q, q < H.size → AX q → A0 q)
    (kx : ∀ (E : String) (ce : Cell) (q9 : Addr) (u : SX) (t : State) (H1 : Heap) (locs1 : List Loc), t.heap = H1 → s.vm.Alike t.vm → px u → BX E u t → H.size ≤ H1.size → (∀ q : Nat, q < H.size → ¬ AX q → H1[q]? = H[q]?) → va_S A0 H0 H1 locs1 → H1[q9]? = some ce → ce.vm = .none → s.vm.findClass E = some ce.cls → vx_W p l e R s m args below meth c H1 locs1 (cells + mc) (slots + ms) Q (F0 m pc ls rest) q9)
    (kk : ∀ (r : UInt32) (u : S) (t : State) (H1 : Heap) (locs1 : List Loc), t.heap = H1 → s.vm.Alike t.vm → post r u → B u t → H.size ≤ H1.size → (∀ q : Nat, q < H.size → ¬ A1 q → H1[q]? = H[q]?) → va_S A0 H0 H1 locs1 → W p l e R s m args below meth c H1 locs1 (cells + mc) (slots + ms) Q (F0 m (pc + 3) ls (.float r :: rest))) : W p l e R s m args below meth c H locs cells slots Q (F0 m pc ls st0) := by
  intro T hT X
  rcases hr T hT X with ⟨v, st₀, t, T', L, h0, X', hL, e1, e2, ⟨⟨r, u, hv, hp, hb⟩, hF⟩, st⟩ | ⟨q, st₀, t, T', L, E, ce, h0, X', hL, e1, e2, ⟨u, hp, hb, hF⟩, hce, hcv, hcl, st⟩
  · cases hv
    obtain ⟨k1, k2, k3⟩ := vx_keep h0 e1 hS hA hf hL hF
    obtain ⟨t2, a1, b1⟩ := kk r u t T'.heap (locs ++ L) e1.symm (by rw [← e2]; exact X'.warmed.alike) hp hb k1 k2 k3 T' rfl X'
    exact ⟨t2, st t2 a1, b1⟩
  · obtain ⟨k1, k2, k3⟩ := vx_keep h0 e1 hS hAX hf hL hF
    obtain ⟨t2, a1, b1⟩ := kx E ce q u t T'.heap (locs ++ L) e1.symm (by rw [← e2]; exact X'.warmed.alike) hp hb k1 k2 k3 (by rw [e1]; exact hce) hcv hcl T' rfl X'
    exact ⟨t2, st.trans a1, b1⟩
theorem vx_calld {S SX : Type} {post : UInt64 → S → Prop} {px : SX → Prop} {B : S → State → Prop} {BX : String → SX → State → Prop} {AX : Nat → Prop} (hr : vx_Run p l e R s m args below meth c H locs cells slots mc ms (F0 m pc ls st0) rest (va_Qd post B A1 a) (vx_X px BX AX) free) (hS : va_S A0 H0 H locs) (hA : ∀ q, q < H.size → A1 q → A0 q) (hf : ∀ q, free q → A0 q) (hAX : ∀ q, q < H.size → AX q → A0 q)
    (kx : ∀ (E : String) (ce : Cell) (q9 : Addr) (u : SX) (t : State) (H1 : Heap) (locs1 : List Loc), t.heap = H1 → s.vm.Alike t.vm → px u → BX E u t → H.size ≤ H1.size → (∀ q : Nat, q < H.size → ¬ AX q → H1[q]? = H[q]?) → va_S A0 H0 H1 locs1 → H1[q9]? = some ce → ce.vm = .none → s.vm.findClass E = some ce.cls → vx_W p l e R s m args below meth c H1 locs1 (cells + mc) (slots + ms) Q (F0 m pc ls rest) q9)
    (kk : ∀ (r : UInt64) (u : S) (t : State) (H1 : Heap) (locs1 : List Loc), t.heap = H1 → s.vm.Alike t.vm → post r u → B u t → H.size ≤ H1.size → (∀ q : Nat, q < H.size → ¬ A1 q → H1[q]? = H[q]?) → va_S A0 H0 H1 locs1 → W p l e R s m args below meth c H1 locs1 (cells + mc) (slots + ms) Q (F0 m (pc + 3) ls (.double r :: rest))) : W p l e R s m args below meth c H locs cells slots Q (F0 m pc ls st0) := by
  intro T hT X
  rcases hr T hT X with ⟨v, st₀, t, T', L, h0, X', hL, e1, e2, ⟨⟨r, u, hv, hp, hb⟩, hF⟩, st⟩ | ⟨q, st₀, t, T', L, E, ce, h0, X', hL, e1, e2, ⟨u, hp, hb, hF⟩, hce, hcv, hcl, st⟩
  · cases hv
    obtain ⟨k1, k2, k3⟩ := vx_keep h0 e1 hS hA hf hL hF
    obtain ⟨t2, a1, b1⟩ := kk r u t T'.heap (locs ++ L) e1.symm (by rw [← e2]; exact X'.warmed.alike) hp hb k1 k2 k3 T' rfl X'
    exact ⟨t2, st t2 a1, b1⟩
  · obtain ⟨k1, k2, k3⟩ := vx_keep h0 e1 hS hAX hf hL hF
    obtain ⟨t2, a1, b1⟩ := kx E ce q u t T'.heap (locs ++ L) e1.symm (by rw [← e2]; exact X'.warmed.alike) hp hb k1 k2 k3 (by rw [e1]; exact hce) hcv hcl T' rfl X'
    exact ⟨t2, st.trans a1, b1⟩
theorem vx_callv {S SX : Type} {post : S → Prop} {px : SX → Prop} {B : S → State → Prop} {BX : String → SX → State → Prop} {AX : Nat → Prop} (hr : vx_Run p l e R s m args below meth c H locs cells slots mc ms (F0 m pc ls st0) rest (va_Qv post B A1 a) (vx_X px BX AX) free) (hS : va_S A0 H0 H locs) (hA : ∀ q, q < H.size → A1 q → A0 q) (hf : ∀ q, free q → A0 q) (hAX : ∀ q, q < H.size → AX q → A0 q)
    (kx : ∀ (E : String) (ce : Cell) (q9 : Addr) (u : SX) (t : State) (H1 : Heap) (locs1 : List Loc), t.heap = H1 → s.vm.Alike t.vm → px u → BX E u t → H.size ≤ H1.size → (∀ q : Nat, q < H.size → ¬ AX q → H1[q]? = H[q]?) → va_S A0 H0 H1 locs1 → H1[q9]? = some ce → ce.vm = .none → s.vm.findClass E = some ce.cls → vx_W p l e R s m args below meth c H1 locs1 (cells + mc) (slots + ms) Q (F0 m pc ls rest) q9)
    (kk : ∀ (u : S) (t : State) (H1 : Heap) (locs1 : List Loc), t.heap = H1 → s.vm.Alike t.vm → post u → B u t → H.size ≤ H1.size → (∀ q : Nat, q < H.size → ¬ A1 q → H1[q]? = H[q]?) → va_S A0 H0 H1 locs1 → W p l e R s m args below meth c H1 locs1 (cells + mc) (slots + ms) Q (F0 m (pc + 3) ls (rest))) : W p l e R s m args below meth c H locs cells slots Q (F0 m pc ls st0) := by
  intro T hT X
  rcases hr T hT X with ⟨v, st₀, t, T', L, h0, X', hL, e1, e2, ⟨⟨u, hv, hp, hb⟩, hF⟩, st⟩ | ⟨q, st₀, t, T', L, E, ce, h0, X', hL, e1, e2, ⟨u, hp, hb, hF⟩, hce, hcv, hcl, st⟩
  · cases hv
    obtain ⟨k1, k2, k3⟩ := vx_keep h0 e1 hS hA hf hL hF
    obtain ⟨t2, a1, b1⟩ := kk u t T'.heap (locs ++ L) e1.symm (by rw [← e2]; exact X'.warmed.alike) hp hb k1 k2 k3 T' rfl X'
    exact ⟨t2, st t2 a1, b1⟩
  · obtain ⟨k1, k2, k3⟩ := vx_keep h0 e1 hS hAX hf hL hF
    obtain ⟨t2, a1, b1⟩ := kx E ce q u t T'.heap (locs ++ L) e1.symm (by rw [← e2]; exact X'.warmed.alike) hp hb k1 k2 k3 (by rw [e1]; exact hce) hcv hcl T' rfl X'
    exact ⟨t2, st.trans a1, b1⟩
/-- caught by the row x of this method's table; the rows ahead don't take it -/
theorem vx_catch {own name : String} {E : String} {ce : Cell} {q : Addr} (hown : s.vm.findClass own = some m.cls) (pre : List ExceptionTableEntry) (x : ExceptionTableEntry) (suf : List ExceptionTableEntry) (hsplit : c.exceptionTable.toList = pre ++ x :: suf)
    (hpass : ∀ z ∈ pre, covers z pc = false ∨ (z.catchType ≠ 0 ∧ ∃ nm : String, (Cond.classLink own z.catchType nm).before args s = true ∧ va_Nc E nm s)) (hx : covers x pc = true) (h0 : x.catchType ≠ 0)
    (hlink : (Cond.classLink own x.catchType name).before args s = true) (hcast : (Cond.castable E name).before args s = true) (hcell : H[q]? = some ce) (hv : ce.vm = .none) (hcl : s.vm.findClass E = some ce.cls)
    (kk : W p l e R s m args below meth c H locs cells slots Q (F0 m x.handlerPc ls [.ref q])) : vx_W p l e R s m args below meth c H locs cells slots Q (F0 m pc ls rest) q := by
  intro T hT X
  have hpl : e.platform.magicAccessors = ({} : Platform).magicAccessors := by rw [X.admits.platform]
  obtain ⟨c3, c4, hc3, hc4, hasg⟩ := Cond.castable_spec hcast
  cases Option.some.inj (hc3.symm.trans hcl)
  obtain ⟨c5, hc5, hcl5⟩ := Cond.classLink_spec hown hlink e.platform hpl
  cases Option.some.inj (hc4.symm.trans hc5)
  obtain ⟨vm', X', st⟩ := X.thenCaughtThrough q (g := F0 m pc ls rest) rfl (Steps.refl _) (by rw [hT]; exact hcell) (by rw [hv]; rfl) (by obtain ⟨k9, h9, -⟩ := Vm.findClass_spec hcl; exact ⟨k9, h9⟩) pre x suf hsplit
    (fun z hz => by
      rcases hpass z hz with h | ⟨hz0, nm, hl1, hn1⟩
      · exact Or.inl h
      · obtain ⟨c6, hc6, hcl6⟩ := Cond.classLink_spec hown hl1 e.platform hpl
        obtain ⟨a8, b8, h1, h2, h3⟩ := hn1
        cases Option.some.inj (h1.symm.trans hcl)
        cases Option.some.inj (h2.symm.trans hc6)
        exact Or.inr ⟨hz0, _, hcl6, h3⟩) hx (Or.inr ⟨h0, c4, hcl5, hasg⟩)
  obtain ⟨t, a1, b1⟩ := kk (T.setVm vm') hT X'
  exact ⟨t, st.trans a1, b1⟩
end Rows
section Ends
variable {p : Program} {l : Launch} {e : Env} {R : Room} {s : State} {m : MethodId} {args : Array Value} {below : List Frame} {meth : Method} {c : Code} {H : Heap} {locs : List Loc} {cells slots : Nat} {Q : State → Prop}
variable {mc ms : Nat} {free : Addr → Prop} {A0 A1 : Nat → Prop} {H0 : Heap} {a : Array Value} {ls : Array Slot} {st0 rest : List Value}
variable {Qc : Array Value → State → Outcome → State → Prop} {XC : String → State → State → Prop}
/-- what a body that may throw owes at its end -/
def vx_MQ (below : List Frame) (Qc : Array Value → State → Outcome → State → Prop) (XC : String → State → State → Prop) (a : Array Value) (s : State) (mc ms : Nat) (free : Addr → Prop) : State → Prop := fun t =>
  ∃ o, t.status = .running ∧ Ended t below o ∧ vx_Q Qc XC mc ms free a s o t
theorem vx_ret {g : JFrame} {mc ms : Nat} (k : W p l e R s m args below meth c H locs cells slots (MQ below Qc args s mc ms free) g) : W p l e R s m args below meth c H locs cells slots (vx_MQ below Qc XC args s mc ms free) g := by
  intro T hT X
  obtain ⟨t, a1, o, b1, b2, b3, b4⟩ := k T hT X
  exact ⟨t, a1, o, b1, b2, Or.inl ⟨b3, b4⟩⟩
/-- not caught here: it goes on to the caller -/
theorem vx_widen {g : JFrame} {q : Addr} {k n : Nat} (h1 : cells ≤ k) (h2 : slots ≤ n) (kk : vx_W p l e R s m args below meth c H locs k n Q g q) : vx_W p l e R s m args below meth c H locs cells slots Q g q := fun T hT X => kk T hT (stand_widen X h1 h2)
theorem vx_out {pc : Nat} {E : String} {ce : Cell} {q : Addr} {mc ms : Nat} (hout : ∀ x ∈ c.exceptionTable.toList, covers x pc = false) (hlocks : meth.locks = false) (hcell : H[q]? = some ce) (hv : ce.vm = .none) (hcl : s.vm.findClass E = some ce.cls)
    (hx : ∀ t : State, t.heap = H → s.vm.Alike t.vm → XC E s t) (hf : ∀ z ∈ locs, free z.base) (hc : cells ≤ mc) (hs : slots ≤ ms) :
    vx_W p l e R s m args below meth c H locs cells slots (vx_MQ below Qc XC args s mc ms free) (F0 m pc ls rest) q := by
  intro T hT X
  obtain ⟨st1, hrun, hend, hW, hsm⟩ := X.leaveThrown q (g := F0 m pc ls rest) rfl rfl rfl hout hlocks
  have hcell9 : (T.setFrames (.throwing q :: below)).heap[q]? = some ce := by
    show T.heap[q]? = some ce
    rw [hT]; exact hcell
  exact ⟨_, st1, .threw q, hrun, hend, Or.inr ⟨q, rfl, E, ce, locs, hx _ hT hW.alike, hcell9, hv, hcl, hW, hsm.mono hc hs, hf⟩⟩
theorem vx_frame {U : State} {k n : Nat} (h : s.sameButNew ({ U with vm := s.vm } : State) locs k n) : s.heap.size ≤ U.heap.size ∧ ∀ q : Nat, q < s.heap.size → (∀ z ∈ locs, z.base ≠ q) → U.heap[q]? = s.heap[q]? := by
  obtain ⟨-, h2, -, -, -, h6⟩ := h
  refine ⟨h2, fun q hq hz => ?_⟩
  obtain ⟨c9, e1, e2, e3, e4⟩ := h6 q _ (Array.getElem?_eq_getElem hq)
  have hs : c9.slots = (s.heap[q]).slots := Array.ext_getElem? fun i => e4 i fun hm => hz _ hm rfl
  have h9 : c9 = s.heap[q] := by
    rw [hs] at e2
    exact e2
  have e5 : U.heap[q]? = some c9 := e1
  rw [e5, h9, Array.getElem?_eq_getElem hq]
/-- the words of a throw but the four that speak of the heap -/
def vx_no (w : Cond) : Bool := decide (w ≠ .isRef (.static Bundle.tN "UNASSIGNED_STACK" Bundle.steD)) && decide (w ≠ .isRef (.static Bundle.tN "SUPPRESSED_SENTINEL" Bundle.listD)) && decide (w ≠ .laysStatic Bundle.tN "UNASSIGNED_STACK" Bundle.steD) && decide (w ≠ .laysStatic Bundle.tN "SUPPRESSED_SENTINEL" Bundle.listD)
def vx_at0 (own : String) (ic : Nat) (X : String) (names : List String) : List Cond := (Bundle.ownAtoms0 own ic X names).filter vx_no
def vx_atS (own : String) (ic : Nat) (X : String) (names : List String) : List Cond := (Bundle.ownAtoms own ic X names).filter vx_no
/-- a word that the tables alone decide, or a good one -/
def vx_ot (w : Cond) : Bool := w.onTables || goodWord w
theorem vx_ot_at {args a' : Array Value} {s U : State} {w : Cond} (hW : s.WarmedH U.vm) (hvm : s.vm = U.vm) (hg : vx_ot w = true) (h : w.before args s = true) : w.before a' U = true := by
  simp only [vx_ot, Bool.or_eq_true] at hg
  rcases hg with hg | hg
  · exact va_tabs hg hvm h
  · exact word_at hW (good_of_word hg) h
/-- a list's words: the good ones out of the method's own list, the others by premises of their own -/
theorem vx_hat {args : Array Value} {s : State} {L B : List Cond} (h1 : ∀ w ∈ L.filter goodWord, w.before args s = true) (h2 : ∀ w ∈ L.filter (fun w => !goodWord w), w ∈ B) (h3 : ∀ w ∈ B, w.before args s = true) : ∀ w ∈ L, w.before args s = true := by
  intro w hw
  by_cases g : goodWord w = true
  · exact h1 w (List.mem_filter.mpr ⟨hw, g⟩)
  · refine h3 w (h2 w (List.mem_filter.mpr ⟨hw, ?_⟩))
    show (!goodWord w) = true
    cases hgw : goodWord w
    · rfl
    · exact absurd hgw g
theorem vx_c {args : Array Value} {s : State} {w : Cond} {B : List Cond} (h : w.before args s = true) (t : ∀ w ∈ B, w.before args s = true) : ∀ w' ∈ w :: B, w'.before args s = true := fun w' h' => (List.mem_cons.mp h').elim (fun e => by rw [e]; exact h) (t w')
theorem vx_n {args : Array Value} {s : State} : ∀ w ∈ ([] : List Cond), w.before args s = true := fun _ h => nomatch h
theorem vx_own {args : Array Value} {s : State} {L : List Cond} (h1 : ∀ w ∈ L.filter vx_no, w.before args s = true)
    (hU : (Cond.isRef (.static Bundle.tN "UNASSIGNED_STACK" Bundle.steD)).before args s = true) (hN : (Cond.isRef (.static Bundle.tN "SUPPRESSED_SENTINEL" Bundle.listD)).before args s = true)
    (lU : (Cond.laysStatic Bundle.tN "UNASSIGNED_STACK" Bundle.steD).before args s = true) (lN : (Cond.laysStatic Bundle.tN "SUPPRESSED_SENTINEL" Bundle.listD).before args s = true) : ∀ w ∈ L, w.before args s = true := by
  intro w hw
  by_cases e1 : w = .isRef (.static Bundle.tN "UNASSIGNED_STACK" Bundle.steD)
  · rw [e1]; exact hU
  · by_cases e2 : w = .isRef (.static Bundle.tN "SUPPRESSED_SENTINEL" Bundle.listD)
    · rw [e2]; exact hN
    · by_cases e3 : w = .laysStatic Bundle.tN "UNASSIGNED_STACK" Bundle.steD
      · rw [e3]; exact lU
      · by_cases e4 : w = .laysStatic Bundle.tN "SUPPRESSED_SENTINEL" Bundle.listD
        · rw [e4]; exact lN
        · exact h1 w (List.mem_filter.mpr ⟨hw, by unfold vx_no; rw [decide_eq_true e1, decide_eq_true e2, decide_eq_true e3, decide_eq_true e4]; rfl⟩)
/-- where a static field lies, its class's statics cell in H -/
def vx_L (C n d : String) (A : Nat → Prop) (U : State) (H : Heap) : Prop := ∃ (c : ClassId) (k : Class) (i : Nat) (f : Field) (a : Nat) (cell : Cell), U.vm.findClass C = some c ∧ U.fieldFound? C n d = some (c, k, i, f) ∧ f.isStatic = true ∧ k.statics = some a ∧ H[a]? = some cell ∧ cell.vm.isStatics = true ∧ cell.cls = c ∧ f.slot < cell.slots.size ∧ k.staticTypes[f.slot]? = some f.type ∧ ¬ A a
theorem vx_L.moved {C n d : String} {A : Nat → Prop} {u U : State} {H : Heap} (hvm : u.vm.Alike U.vm) (h : vx_L C n d A u H) : vx_L C n d A U H := by
  obtain ⟨c, k, i, f, a, cell, h1, h2, h3, h4, h5, h6, h7, h8, h9, h10⟩ := h
  obtain ⟨k', hi', he⟩ := State.fieldFound?_setVm hvm h2
  exact ⟨c, k', i, f, a, cell, by rw [hvm.findClass]; exact h1, hi', h3, by rw [he]; exact h4, h5, h6, h7, h8, by rw [he]; exact h9, h10⟩
theorem vx_L.kept {C n d : String} {A : Nat → Prop} {U : State} {H H1 : Heap} (h : vx_L C n d A U H) (hq : ∀ a : Nat, a < H.size → ¬ A a → H1[a]? = H[a]?) : vx_L C n d A U H1 := by
  obtain ⟨c, k, i, f, a, cell, h1, h2, h3, h4, h5, h6, h7, h8, h9, h10⟩ := h
  exact ⟨c, k, i, f, a, cell, h1, h2, h3, h4, by rw [hq a (Array.getElem?_eq_some_iff.mp h5).1 h10]; exact h5, h6, h7, h8, h9, h10⟩
theorem vx_L.narrow {C n d : String} {A B : Nat → Prop} {U : State} {H : Heap} (h : vx_L C n d A U H) (hAB : ∀ q, B q → A q) : vx_L C n d B U H := by
  obtain ⟨c, k, i, f, a, cell, h1, h2, h3, h4, h5, h6, h7, h8, h9, h10⟩ := h
  exact ⟨c, k, i, f, a, cell, h1, h2, h3, h4, h5, h6, h7, h8, h9, fun z => h10 (hAB _ z)⟩
theorem vx_L.word {C n d : String} {A : Nat → Prop} {s : State} {args : Array Value} (h : vx_L C n d A s s.heap) : (Cond.laysStatic C n d).before args s = true := by
  obtain ⟨c, k, i, f, a, cell, h1, h2, h3, h4, h5, h6, h7, h8, h9, -⟩ := h
  show (Cond.laysStatic C n d).holds args s none s [] = true
  exact Cond.laysStatic_of h1 h2 h3 h4 h5 h6 h7 h8 h9
/-- .. and what it holds: null or some reference -/
def vx_Zq (C n d : String) (A : Nat → Prop) (U : State) (H : Heap) : Prop := va_Zq C n d A U H ∧ vx_L C n d A U H
theorem vx_Zq.moved {C n d : String} {A : Nat → Prop} {u U : State} {H : Heap} (hvm : u.vm.Alike U.vm) (h : vx_Zq C n d A u H) : vx_Zq C n d A U H := ⟨va_Zq.moved hvm h.1, vx_L.moved hvm h.2⟩
theorem vx_Zq.kept {C n d : String} {A : Nat → Prop} {U : State} {H H1 : Heap} (h : vx_Zq C n d A U H) (hq : ∀ a : Nat, a < H.size → ¬ A a → H1[a]? = H[a]?) : vx_Zq C n d A U H1 := ⟨va_Zq.kept h.1 hq, vx_L.kept h.2 hq⟩
theorem vx_Zq.narrow {C n d : String} {A B : Nat → Prop} {U : State} {H : Heap} (h : vx_Zq C n d A U H) (hAB : ∀ q, B q → A q) : vx_Zq C n d B U H := ⟨va_Zq.narrow h.1 hAB, vx_L.narrow h.2 hAB⟩
theorem vx_Zqof {args : Array Value} {s : State} {C n d : String} {A : Nat → Prop} (hl : (Cond.laysStatic C n d).before args s = true) (hini : (Cond.initialized C).before args s = true) (h : (Cond.isRef (.static C n d)).before args s = true) (hA : ∀ a : Nat, a < s.heap.size → ¬ A a) : vx_Zq C n d A s s.heap := by
  refine ⟨va_Zqof hl hini h hA, ?_⟩
  obtain ⟨c, k, i, f, a, cell, h1, h2, h3, h4, h5, h6, h7, h8, h9⟩ := Cond.laysStatic_spec hl
  exact ⟨c, k, i, f, a, cell, h1, h2, h3, h4, h5, h6, h7, h8, h9, hA a (Array.getElem?_eq_some_iff.mp h5).1⟩
theorem vx_isRef {C n d : String} {v : Value} {A : Nat → Prop} {s : State} {args : Array Value} (h : va_Z C n d v A s s.heap) (hv : v.isRef = true) : (Cond.isRef (.static C n d)).before args s = true := by
  obtain ⟨cf, kf, fi, f, a, cell, h1, h2, h3, h4, h5, h6, h7, -⟩ := h
  have he : (Term.static C n d).eval args s none [] s = some v := by
    simp [Term.eval, State.fieldNamed?, h1, h2, h4, h5, h6, h7]
  simp only [Cond.before, Cond.holds, Cond.value, he]
  cases v <;> simp_all [Value.isRef]
theorem vx_isRefq {C n d : String} {A : Nat → Prop} {s : State} {args : Array Value} (h : va_Zq C n d A s s.heap) : (Cond.isRef (.static C n d)).before args s = true := by
  rcases h with h | ⟨t, h⟩
  · exact vx_isRef h rfl
  · exact vx_isRef h rfl
/-- the same frame, seen from here: as if the method were called anew in this heap -/
theorem vx_rebase {T : State} (X : Stand p l e R s m args below meth c T locs cells slots) {R' : Room} (hf : R'.frames ≤ R.frames) (hl : R'.locals ≤ R.locals) (hc : cells + R'.cells ≤ R.cells) (hs : slots + R'.slots ≤ R.slots) :
    Stand p l e R' ((T.setVm s.vm).setFrames (.invoking m args :: below)) m args below meth c T [] 0 0 := by
  have htop : (T.setVm s.vm).topJava?.isSome := X.here.top
  have hF : ((T.setVm s.vm).setFrames (.invoking m args :: below)).frames = .invoking m args :: below := State.frames_setFrames _ (State.cur_lt_of_top htop)
  obtain ⟨g₀, hg0⟩ := Option.isSome_iff_exists.mp htop
  obtain ⟨r, hr⟩ := State.topJava?_eq_some.mp hg0
  have hl9 : e.platform.stackLimits (T.setVm s.vm).me = e.platform.stackLimits s.me := X.limits
  have hb9 : (T.setVm s.vm).me.stackBytes = s.me.stackBytes := X.bytes
  refine ⟨X.admits, X.cas, X.clock, hF, ?_, X.hears, X.method, X.code, X.here, X.tail, X.warmed, ?_, ?_, ?_⟩
  · have h := X.room
    have hU : ((T.setVm s.vm).setFrames (.invoking m args :: below)).localsInUse = s.localsInUse := by
      rw [State.localsInUse_invoking hF (meth := meth) (c := c) X.method X.code, State.localsInUse_invoking X.frames X.method X.code]
    simp only [State.hasRoom, Bool.and_eq_true, decide_eq_true_eq] at h ⊢
    obtain ⟨⟨⟨⟨h1, h2, h3, h4, h5, h6⟩, h7⟩, h8⟩, h9⟩ := h
    rw [X.frames, List.length_cons] at h2 h3
    have q1 := X.heapSize
    have q2 := X.used
    simp only [hF, hU, List.length_cons, State.stackLimits_setFrames, State.stackBytes_setFrames, hl9, hb9]
    refine ⟨⟨⟨⟨by omega, by omega, by omega, by omega, by omega, h6⟩, ?_⟩, ?_⟩, X.book⟩
    · show T.heap.size + R'.cells ≤ e.platform.maxCells
      omega
    · show T.slotsUsed + R'.slots ≤ e.platform.maxSlots
      omega
  · rw [State.stackLimits_setFrames]; rfl
  · rw [State.stackBytes_setFrames]; rfl
  · refine ⟨?_, Nat.le_refl _, Nat.le_refl _, ?_, ?_, fun a c9 h9 => ⟨c9, h9, rfl, rfl, fun _ _ => rfl⟩⟩
    · obtain ⟨t, ht, -⟩ := State.frames_cons hr
      show T.setVm s.vm = { ((T.setVm s.vm).setFrames (.invoking m args :: below)).setFrames (T.setVm s.vm).frames with heap := T.heap, slotsUsed := T.slotsUsed }
      rw [State.setFrames_setFrames, State.setFrames_self ht]
      rfl
    · show T.slotsUsed = T.slotsUsed + ((T.heap.toList.drop T.heap.size).map (·.slots.size)).sum
      rw [List.drop_eq_nil_of_le (Nat.le_of_eq Array.length_toList)]
      rfl
    · show ((T.heap.toList.drop T.heap.size).map (·.slots.size)).sum ≤ 0
      rw [List.drop_eq_nil_of_le (Nat.le_of_eq Array.length_toList)]
      exact Nat.le_refl _
/-- 'throw new E()': new; dup; invokespecial; athrow -/
theorem vx_throw0 {cc : ByteArray} {pc : Nat} (hexec : p.tables.exec = Jvm.exec) (hb : c.code = cc) (hl : l.stackTraces = false) {own cls : String} {names : List String} {ik ic mc ms : Nat} {A : Nat → Prop}
    (hown : s.vm.findClass own = some m.cls) (hcls : Bundle.fit cls = true) (hnames : ∀ n ∈ names, Bundle.fit n = true)
    (hk : (Cond.classLink own ik cls).before args s = true) (hini : (Cond.initialized cls).before args s = true) (hat : ∀ w ∈ vx_at0 own ic cls names, w.before args s = true)
    (hgood : ∀ w ∈ Cond.classLink own ik cls :: Cond.initialized cls :: vx_at0 own ic cls names, vx_ot w = true)
    (hU : vx_Zq Bundle.tN "UNASSIGNED_STACK" Bundle.steD A s s.heap) (hN : vx_Zq Bundle.tN "SUPPRESSED_SENTINEL" Bundle.listD A s s.heap) (hS : va_S A s.heap H locs) (hsize : ls.size = c.maxLocals)
    (d0 : decode cc pc = .ok (.new ik, 3)) (d3 : decode cc (pc + 3) = .ok (.dup, 1)) (d4 : decode cc (pc + 4) = .ok (.invokespecial ic, 3)) (d7 : decode cc (pc + 7) = .ok (.athrow, 1))
    (hout : ∀ x ∈ c.exceptionTable.toList, covers x (pc + 7) = false)
    (hRframes : names.length + 3 < R.frames) (hRlocals : (rest.map fun v => v.category).sum + (13 * (names.length + 1) + 42) ≤ R.locals) (hRcells : cells + 1 ≤ R.cells) (hRslots : slots + 6 ≤ R.slots) (hlocks : meth.locks = false)
    (hx : ∀ t : State, s.vm.Alike t.vm → H.size ≤ t.heap.size → (∀ q : Nat, q < H.size → t.heap[q]? = H[q]?) → XC cls s t)
    (hf : ∀ z ∈ locs, free z.base) (hc : cells + 1 ≤ mc) (hs : slots + 6 ≤ ms) :
    W p l e R s m args below meth c H locs cells slots (vx_MQ below Qc XC args s mc ms free) (F0 m pc ls rest) := by
  intro T hT X
  have htr : e.platform.stackTraces = false := (show e.platform.stackTraces = l.stackTraces by rw [X.admits.platform]).trans hl
  have Y := vx_rebase X (R' := { frames := R.frames, locals := R.locals, cells := 1, slots := 6 }) (Nat.le_refl _) (Nat.le_refl _) hRcells hRslots
  obtain ⟨s', hA⟩ : ∃ z, z = (T.setVm s.vm).setFrames (.invoking m args :: below) := ⟨_, rfl⟩
  rw [← hA] at Y
  have hvm : s'.vm = s.vm := by rw [hA]; rfl
  have hhp : s'.heap = H := by rw [hA]; exact hT
  have hW0 : s.WarmedH s'.vm := by rw [hvm]; exact State.WarmedH.refl s
  have hat' : ∀ w ∈ vx_at0 own ic cls names, w.before args s' = true := fun w hw => vx_ot_at hW0 hvm.symm (hgood w (List.mem_cons_of_mem _ (List.mem_cons_of_mem _ hw))) (hat w hw)
  have hk' : (Cond.classLink own ik cls).before args s' = true := vx_ot_at hW0 hvm.symm (hgood _ List.mem_cons_self) hk
  have hini' : (Cond.initialized cls).before args s' = true := vx_ot_at hW0 hvm.symm (hgood _ (List.mem_cons_of_mem _ List.mem_cons_self)) hini
  have hU' : vx_Zq Bundle.tN "UNASSIGNED_STACK" Bundle.steD A s' s'.heap := by rw [hhp]; exact vx_Zq.moved hW0.alike (hU.kept hS.2.1)
  have hN' : vx_Zq Bundle.tN "SUPPRESSED_SENTINEL" Bundle.listD A s' s'.heap := by rw [hhp]; exact vx_Zq.moved hW0.alike (hN.kept hS.2.1)
  have h : ∀ w ∈ Bundle.ownAtoms0 own ic cls names, w.before args s' = true := vx_own hat' (vx_isRefq hU'.1) (vx_isRefq hN'.1) hU'.2.word hN'.2.word
  have hown' : s'.vm.findClass own = some m.cls := by rw [hvm]; exact hown
  have hins : (Cond.instantiable cls 6).before args s' = true := h _ (by simp [Bundle.ownAtoms0])
  obtain ⟨vm₁, cX, kX, hfX, hkX, -, -, X₁, st1⟩ := Y.newCold hexec (own := own) (C := cls) (index := ik) (n := 6) hown' hk' hins hini'
    (g := F0 m pc ls rest) rfl (by rw [hb]; exact d0) (Nat.le_refl _) (Nat.le_refl _)
  generalize hT1 : (T.setVm vm₁).pushCell { cls := cX, slots := kX.instanceTypes.map defaultValue, vm := .none } = T1 at X₁ st1
  have hcat : (Value.ref T.heap.size).category = 1 := rfl
  have hcellA : T1.heap[T.heap.size]? = some (freshCell cX kX) := by rw [← hT1]; exact State.heap_pushCell_size _ _
  have d3' : decode c.code (pc + 3) = .ok (.dup, 1) := by rw [hb]; exact d3
  obtain ⟨U, hsteps, hrun, hend, hW, hsame, ce, hce, hO⟩ := X₁.ctorThrow0 hexec htr (own := own) (cls := cls) (names := names) (ic := ic) hown' hcls hnames h (fun x hx => nomatch hx) hfX hkX hcellA (by rw [hhp, hT]; exact Nat.le_refl _)
    (g := { method := m, pc := pc + 4, locals := ls, stack := .ref T.heap.size :: .ref T.heap.size :: rest, locked := none }) rfl hsize rfl rfl (rest := rest) rfl
    (by rw [hb]; exact d4) (by rw [hb]; exact d7) hout hRframes (by simp only [List.map_cons, List.sum_cons, hcat]; omega) hlocks
  obtain ⟨f1, f2⟩ := vx_frame hsame
  rw [hhp] at f1 f2
  have hWs : s.WarmedH U.vm := State.WarmedH.trans hW0 hW
  have hcl : s.vm.findClass cls = some ce.cls := by
    have h9 := hO.cls
    rw [hvm] at h9
    exact h9
  have hall : s.sameButNew ({ U with vm := s.vm } : State) locs mc ms := by
    subst hA
    obtain ⟨e1, e2⟩ := hsame
    rw [State.setFrames_setFrames] at e1
    have h2 : (T.setVm s.vm).sameButNew ({ U with vm := s.vm } : State) [] (0 + 1) (0 + 6) := ⟨e1, e2⟩
    have h3 := X.same.trans h2
    rw [List.append_nil] at h3
    exact h3.mono hc hs
  refine ⟨U, ?_, .threw T.heap.size, hrun, hend, Or.inr ⟨T.heap.size, rfl, cls, ce, locs, hx U hWs.alike f1 (fun q hq => f2 q hq (fun z hz => nomatch hz)), hce, hO.vm, hcl, hWs, hall, hf⟩⟩
  refine st1 _ ?_
  show Steps p.tables e below (T1.setTop { method := m, pc := pc + 3, locals := ls, stack := .ref T.heap.size :: rest, locked := none }) _
  jvm_step X₁.here [X₁.here.top, hexec, d3', Value.category]
  exact hsteps
/-- 'throw new E("text")': new; dup; ldc; invokespecial; athrow -/
theorem vx_throwS {cc : ByteArray} {pc : Nat} (hexec : p.tables.exec = Jvm.exec) (hb : c.code = cc) (hl : l.stackTraces = false) {own cls text : String} {names : List String} {ik is ic mc ms sa : Nat} {A : Nat → Prop}
    (hown : s.vm.findClass own = some m.cls) (hcls : Bundle.fit cls = true) (hnames : ∀ n ∈ names, Bundle.fit n = true)
    (hk : (Cond.classLink own ik cls).before args s = true) (hini : (Cond.initialized cls).before args s = true) (hstr : vk_R own is text sa s) (hat : ∀ w ∈ vx_atS own ic cls names, w.before args s = true)
    (hgood : ∀ w ∈ Cond.classLink own ik cls :: Cond.initialized cls :: vx_atS own ic cls names, vx_ot w = true)
    (hU : vx_Zq Bundle.tN "UNASSIGNED_STACK" Bundle.steD A s s.heap) (hN : vx_Zq Bundle.tN "SUPPRESSED_SENTINEL" Bundle.listD A s s.heap) (hS : va_S A s.heap H locs) (hsize : ls.size = c.maxLocals)
    (d0 : decode cc pc = .ok (.new ik, 3)) (d3 : decode cc (pc + 3) = .ok (.dup, 1)) (d4 : decode cc (pc + 4) = .ok (.ldc is, 2)) (d6 : decode cc (pc + 6) = .ok (.invokespecial ic, 3)) (d9 : decode cc (pc + 9) = .ok (.athrow, 1))
    (hout : ∀ x ∈ c.exceptionTable.toList, covers x (pc + 9) = false)
    (hRframes : names.length + 3 < R.frames) (hRlocals : (rest.map fun v => v.category).sum + (13 * (names.length + 1) + 43) ≤ R.locals) (hRcells : cells + 1 ≤ R.cells) (hRslots : slots + 6 ≤ R.slots) (hlocks : meth.locks = false)
    (hx : ∀ t : State, s.vm.Alike t.vm → H.size ≤ t.heap.size → (∀ q : Nat, q < H.size → t.heap[q]? = H[q]?) → XC cls s t)
    (hf : ∀ z ∈ locs, free z.base) (hc : cells + 1 ≤ mc) (hs : slots + 6 ≤ ms) :
    W p l e R s m args below meth c H locs cells slots (vx_MQ below Qc XC args s mc ms free) (F0 m pc ls rest) := by
  intro T hT X
  have htr : e.platform.stackTraces = false := (show e.platform.stackTraces = l.stackTraces by rw [X.admits.platform]).trans hl
  have Y := vx_rebase X (R' := { frames := R.frames, locals := R.locals, cells := 1, slots := 6 }) (Nat.le_refl _) (Nat.le_refl _) hRcells hRslots
  obtain ⟨s', hA⟩ : ∃ z, z = (T.setVm s.vm).setFrames (.invoking m args :: below) := ⟨_, rfl⟩
  rw [← hA] at Y
  have hvm : s'.vm = s.vm := by rw [hA]; rfl
  have hhp : s'.heap = H := by rw [hA]; exact hT
  have hW0 : s.WarmedH s'.vm := by rw [hvm]; exact State.WarmedH.refl s
  have hat' : ∀ w ∈ vx_atS own ic cls names, w.before args s' = true := fun w hw => vx_ot_at hW0 hvm.symm (hgood w (List.mem_cons_of_mem _ (List.mem_cons_of_mem _ hw))) (hat w hw)
  have hk' : (Cond.classLink own ik cls).before args s' = true := vx_ot_at hW0 hvm.symm (hgood _ List.mem_cons_self) hk
  have hini' : (Cond.initialized cls).before args s' = true := vx_ot_at hW0 hvm.symm (hgood _ (List.mem_cons_of_mem _ List.mem_cons_self)) hini
  have hU' : vx_Zq Bundle.tN "UNASSIGNED_STACK" Bundle.steD A s' s'.heap := by rw [hhp]; exact vx_Zq.moved hW0.alike (hU.kept hS.2.1)
  have hN' : vx_Zq Bundle.tN "SUPPRESSED_SENTINEL" Bundle.listD A s' s'.heap := by rw [hhp]; exact vx_Zq.moved hW0.alike (hN.kept hS.2.1)
  have h : ∀ w ∈ Bundle.ownAtoms own ic cls names, w.before args s' = true := vx_own hat' (vx_isRefq hU'.1) (vx_isRefq hN'.1) hU'.2.word hN'.2.word
  have hown' : s'.vm.findClass own = some m.cls := by rw [hvm]; exact hown
  have hins : (Cond.instantiable cls 6).before args s' = true := h _ (by simp [Bundle.ownAtoms])
  obtain ⟨vm₁, cX, kX, hfX, hkX, -, -, X₁, st1⟩ := Y.newCold hexec (own := own) (C := cls) (index := ik) (n := 6) hown' hk' hins hini'
    (g := F0 m pc ls rest) rfl (by rw [hb]; exact d0) (Nat.le_refl _) (Nat.le_refl _)
  generalize hT1 : (T.setVm vm₁).pushCell { cls := cX, slots := kX.instanceTypes.map defaultValue, vm := .none } = T1 at X₁ st1
  have hcat : (Value.ref T.heap.size).category = 1 := rfl
  have hcellA : T1.heap[T.heap.size]? = some (freshCell cX kX) := by rw [← hT1]; exact State.heap_pushCell_size _ _
  have d3' : decode c.code (pc + 3) = .ok (.dup, 1) := by rw [hb]; exact d3
  have d4' : decode c.code (pc + 4) = .ok (.ldc is, 2) := by rw [hb]; exact d4
  have hstr' : vk_R own is text sa s' := vk_R.warm hW0 hstr
  obtain ⟨U, hsteps, hrun, hend, hW, hsame, ce, hce, hO⟩ := X₁.ctorThrowS hexec htr (own := own) (cls := cls) (names := names) (ic := ic) hown' hcls hnames h (fun x hx => nomatch hx) hfX hkX hcellA (by rw [hhp, hT]; exact Nat.le_refl _) (msg := .ref sa) rfl
    (g := { method := m, pc := pc + 6, locals := ls, stack := .ref sa :: .ref T.heap.size :: .ref T.heap.size :: rest, locked := none }) rfl hsize rfl rfl (rest := rest) rfl
    (by rw [hb]; exact d6) (by rw [hb]; exact d9) hout hRframes (by simp only [List.map_cons, List.sum_cons, hcat]; omega) hlocks
  obtain ⟨f1, f2⟩ := vx_frame hsame
  rw [hhp] at f1 f2
  have hWs : s.WarmedH U.vm := State.WarmedH.trans hW0 hW
  have hcl : s.vm.findClass cls = some ce.cls := by
    have h9 := hO.cls
    rw [hvm] at h9
    exact h9
  have hall : s.sameButNew ({ U with vm := s.vm } : State) locs mc ms := by
    subst hA
    obtain ⟨e1, e2⟩ := hsame
    rw [State.setFrames_setFrames] at e1
    have h2 : (T.setVm s.vm).sameButNew ({ U with vm := s.vm } : State) [] (0 + 1) (0 + 6) := ⟨e1, e2⟩
    have h3 := X.same.trans h2
    rw [List.append_nil] at h3
    exact h3.mono hc hs
  refine ⟨U, ?_, .threw T.heap.size, hrun, hend, Or.inr ⟨T.heap.size, rfl, cls, ce, locs, hx U hWs.alike f1 (fun q hq => f2 q hq (fun z hz => nomatch hz)), hce, hO.vm, hcl, hWs, hall, hf⟩⟩
  refine st1 _ ?_
  show Steps p.tables e below (T1.setTop { method := m, pc := pc + 3, locals := ls, stack := .ref T.heap.size :: rest, locked := none }) _
  jvm_step X₁.here [X₁.here.top, hexec, d3', Value.category]
  exact X₁.ldcString hexec (own := own) (text := text) (index := is) (a := sa) hown' hstr'.1 hstr'.2
    (g := { method := m, pc := pc + 4, locals := ls, stack := .ref T.heap.size :: .ref T.heap.size :: rest, locked := none }) rfl d4' _ hsteps
/-- 'throw new E("text")', the text by a wide index -/
theorem vx_throwSW {cc : ByteArray} {pc : Nat} (hexec : p.tables.exec = Jvm.exec) (hb : c.code = cc) (hl : l.stackTraces = false) {own cls text : String} {names : List String} {ik is ic mc ms sa : Nat} {A : Nat → Prop}
    (hown : s.vm.findClass own = some m.cls) (hcls : Bundle.fit cls = true) (hnames : ∀ n ∈ names, Bundle.fit n = true)
    (hk : (Cond.classLink own ik cls).before args s = true) (hini : (Cond.initialized cls).before args s = true) (hstr : vk_R own is text sa s) (hat : ∀ w ∈ vx_atS own ic cls names, w.before args s = true)
    (hgood : ∀ w ∈ Cond.classLink own ik cls :: Cond.initialized cls :: vx_atS own ic cls names, vx_ot w = true)
    (hU : vx_Zq Bundle.tN "UNASSIGNED_STACK" Bundle.steD A s s.heap) (hN : vx_Zq Bundle.tN "SUPPRESSED_SENTINEL" Bundle.listD A s s.heap) (hS : va_S A s.heap H locs) (hsize : ls.size = c.maxLocals)
    (d0 : decode cc pc = .ok (.new ik, 3)) (d3 : decode cc (pc + 3) = .ok (.dup, 1)) (d4 : decode cc (pc + 4) = .ok (.ldc_w is, 3)) (d7 : decode cc (pc + 7) = .ok (.invokespecial ic, 3)) (d10 : decode cc (pc + 10) = .ok (.athrow, 1))
    (hout : ∀ x ∈ c.exceptionTable.toList, covers x (pc + 10) = false)
    (hRframes : names.length + 3 < R.frames) (hRlocals : (rest.map fun v => v.category).sum + (13 * (names.length + 1) + 43) ≤ R.locals) (hRcells : cells + 1 ≤ R.cells) (hRslots : slots + 6 ≤ R.slots) (hlocks : meth.locks = false)
    (hx : ∀ t : State, s.vm.Alike t.vm → H.size ≤ t.heap.size → (∀ q : Nat, q < H.size → t.heap[q]? = H[q]?) → XC cls s t)
    (hf : ∀ z ∈ locs, free z.base) (hc : cells + 1 ≤ mc) (hs : slots + 6 ≤ ms) :
    W p l e R s m args below meth c H locs cells slots (vx_MQ below Qc XC args s mc ms free) (F0 m pc ls rest) := by
  intro T hT X
  have htr : e.platform.stackTraces = false := (show e.platform.stackTraces = l.stackTraces by rw [X.admits.platform]).trans hl
  have Y := vx_rebase X (R' := { frames := R.frames, locals := R.locals, cells := 1, slots := 6 }) (Nat.le_refl _) (Nat.le_refl _) hRcells hRslots
  obtain ⟨s', hA⟩ : ∃ z, z = (T.setVm s.vm).setFrames (.invoking m args :: below) := ⟨_, rfl⟩
  rw [← hA] at Y
  have hvm : s'.vm = s.vm := by rw [hA]; rfl
  have hhp : s'.heap = H := by rw [hA]; exact hT
  have hW0 : s.WarmedH s'.vm := by rw [hvm]; exact State.WarmedH.refl s
  have hat' : ∀ w ∈ vx_atS own ic cls names, w.before args s' = true := fun w hw => vx_ot_at hW0 hvm.symm (hgood w (List.mem_cons_of_mem _ (List.mem_cons_of_mem _ hw))) (hat w hw)
  have hk' : (Cond.classLink own ik cls).before args s' = true := vx_ot_at hW0 hvm.symm (hgood _ List.mem_cons_self) hk
  have hini' : (Cond.initialized cls).before args s' = true := vx_ot_at hW0 hvm.symm (hgood _ (List.mem_cons_of_mem _ List.mem_cons_self)) hini
  have hU' : vx_Zq Bundle.tN "UNASSIGNED_STACK" Bundle.steD A s' s'.heap := by rw [hhp]; exact vx_Zq.moved hW0.alike (hU.kept hS.2.1)
  have hN' : vx_Zq Bundle.tN "SUPPRESSED_SENTINEL" Bundle.listD A s' s'.heap := by rw [hhp]; exact vx_Zq.moved hW0.alike (hN.kept hS.2.1)
  have h : ∀ w ∈ Bundle.ownAtoms own ic cls names, w.before args s' = true := vx_own hat' (vx_isRefq hU'.1) (vx_isRefq hN'.1) hU'.2.word hN'.2.word
  have hown' : s'.vm.findClass own = some m.cls := by rw [hvm]; exact hown
  have hins : (Cond.instantiable cls 6).before args s' = true := h _ (by simp [Bundle.ownAtoms])
  obtain ⟨vm₁, cX, kX, hfX, hkX, -, -, X₁, st1⟩ := Y.newCold hexec (own := own) (C := cls) (index := ik) (n := 6) hown' hk' hins hini'
    (g := F0 m pc ls rest) rfl (by rw [hb]; exact d0) (Nat.le_refl _) (Nat.le_refl _)
  generalize hT1 : (T.setVm vm₁).pushCell { cls := cX, slots := kX.instanceTypes.map defaultValue, vm := .none } = T1 at X₁ st1
  have hcat : (Value.ref T.heap.size).category = 1 := rfl
  have hcellA : T1.heap[T.heap.size]? = some (freshCell cX kX) := by rw [← hT1]; exact State.heap_pushCell_size _ _
  have d3' : decode c.code (pc + 3) = .ok (.dup, 1) := by rw [hb]; exact d3
  have d4' : decode c.code (pc + 4) = .ok (.ldc_w is, 3) := by rw [hb]; exact d4
  have hstr' : vk_R own is text sa s' := vk_R.warm hW0 hstr
  obtain ⟨U, hsteps, hrun, hend, hW, hsame, ce, hce, hO⟩ := X₁.ctorThrowS hexec htr (own := own) (cls := cls) (names := names) (ic := ic) hown' hcls hnames h (fun x hx => nomatch hx) hfX hkX hcellA (by rw [hhp, hT]; exact Nat.le_refl _) (msg := .ref sa) rfl
    (g := { method := m, pc := pc + 7, locals := ls, stack := .ref sa :: .ref T.heap.size :: .ref T.heap.size :: rest, locked := none }) rfl hsize rfl rfl (rest := rest) rfl
    (by rw [hb]; exact d7) (by rw [hb]; exact d10) hout hRframes (by simp only [List.map_cons, List.sum_cons, hcat]; omega) hlocks
  obtain ⟨f1, f2⟩ := vx_frame hsame
  rw [hhp] at f1 f2
  have hWs : s.WarmedH U.vm := State.WarmedH.trans hW0 hW
  have hcl : s.vm.findClass cls = some ce.cls := by
    have h9 := hO.cls
    rw [hvm] at h9
    exact h9
  have hall : s.sameButNew ({ U with vm := s.vm } : State) locs mc ms := by
    subst hA
    obtain ⟨e1, e2⟩ := hsame
    rw [State.setFrames_setFrames] at e1
    have h2 : (T.setVm s.vm).sameButNew ({ U with vm := s.vm } : State) [] (0 + 1) (0 + 6) := ⟨e1, e2⟩
    have h3 := X.same.trans h2
    rw [List.append_nil] at h3
    exact h3.mono hc hs
  refine ⟨U, ?_, .threw T.heap.size, hrun, hend, Or.inr ⟨T.heap.size, rfl, cls, ce, locs, hx U hWs.alike f1 (fun q hq => f2 q hq (fun z hz => nomatch hz)), hce, hO.vm, hcl, hWs, hall, hf⟩⟩
  refine st1 _ ?_
  show Steps p.tables e below (T1.setTop { method := m, pc := pc + 3, locals := ls, stack := .ref T.heap.size :: rest, locked := none }) _
  jvm_step X₁.here [X₁.here.top, hexec, d3', Value.category]
  exact X₁.ldcStringW hexec (own := own) (text := text) (index := is) (a := sa) hown' hstr'.1 hstr'.2
    (g := { method := m, pc := pc + 4, locals := ls, stack := .ref T.heap.size :: .ref T.heap.size :: rest, locked := none }) rfl d4' _ hsteps
end Ends
section Bodies
variable {l : Launch}
theorem vx_ofW {y : MethodName} {ws ws' : List Cond} {rm : Room} {Pc : Array Value → State → Prop} {Qc : Array Value → State → Outcome → State → Prop} {XC : String → State → State → Prop} {mc ms : Nat} {free : Addr → Prop} {cc : ByteArray} {maxL : Nat} {ret : Option FieldType}
    (hy : plainName y.cls = true) (hw : ws = Cond.code y cc maxL ret :: ws')
    (body : ∀ p e s m args below meth c s₁, BodyLoose p l y (headSpec ws rm) cc maxL ret e s m args below meth c s₁ → c.maxLocals = maxL → (∀ x ∈ c.exceptionTable.toList, False) → Pc args s →
      W p l e (headSpec ws rm).room s m args below meth c s.heap [] 0 0 (vx_MQ below Qc XC args s mc ms free) (entryFrame m args maxL)) : vx_Met l y ws rm Pc Qc XC mc ms free := by
  refine MetFree.of_bodyS (code := cc) (maxLocals := maxL) (ret := ret) hy ?_ ?_
  · intro args s m h hn
    obtain ⟨meth, c, h1, h2, h3, h4, h5, h6, -, -⟩ := Cond.code_spec hn (atoms_spec (ws := ws) h _ (by rw [hw]; exact List.mem_cons_self))
    exact ⟨meth, c, h1, h2, h3, h4, h5, h6⟩
  · intro p e s m args below meth c s₁ B hml hP _
    have hh0 : s₁.heap = s.heap := by rw [B.state]; rfl
    have ht : ∀ x ∈ c.exceptionTable.toList, False := by
      obtain ⟨meth9, c9, h1, h2, -, -, -, -, h7, -⟩ := Cond.code_spec B.named (atoms_spec (ws := ws) B.pre _ (by rw [hw]; exact List.mem_cons_self))
      cases Option.some.inj (h1.symm.trans B.method)
      cases Option.some.inj (h2.symm.trans (Stand.of_body B).code)
      intro x hx
      rw [Array.isEmpty_iff.mp h7] at hx
      cases hx
    obtain ⟨t, a1, o, b1, b2, b3⟩ := body p e s m args below meth c s₁ B hml ht hP s₁ hh0 (Stand.of_body B)
    exact ⟨t, o, a1, b1, b2, b3⟩
/-- the table of a body with handlers -/
theorem vx_table {p : Program} {x y : MethodName} {S : Spec} {cc bytes : ByteArray} {maxL maxL' : Nat} {ret ret' : Option FieldType} {e : Env} {s s₁ : State} {m : MethodId} {args : Array Value} {below : List Frame} {meth : Method} {c : Code} {hh : List (Nat × Nat × Nat × Nat)}
    (B : BodyLoose p l y S cc maxL ret e s m args below meth c s₁) (h : (Cond.codeWith y bytes maxL' ret' hh).before args s = true) : c.exceptionTable.toList = tableOf hh := by
  obtain ⟨m9, meth9, c9, hn9, h1, h2, -, -, h6, -⟩ := Cond.codeWith_spec h
  cases Option.some.inj (hn9.symm.trans B.named)
  cases Option.some.inj (h1.symm.trans B.method)
  cases Option.some.inj (h2.symm.trans (Stand.of_body B).code)
  rw [← h6, table_eq]
end Bodies
end VXA
/-! ===== END ===== -/
/-! ===== BEGIN a static call of a method with an exception table ===== -/
section VXS
variable {p : Program} {l : Launch} {e : Env} {R : Room} {s : State} {m : MethodId} {args : Array Value} {below : List Frame} {meth : Method} {c : Code} {T : State} {H : Heap} {locs : List Loc} {cells slots : Nat}
abbrev vx_CSW (R : Room) (s : State) (args : Array Value) (own : String) (index : Nat) (y : MethodName) (bytes : ByteArray) (maxL : Nat) (ret : Option FieldType) (hh : List (Nat × Nat × Nat × Nat)) (ws : List Cond) (rm : Room) (mc ms n : Nat) : Prop :=
  (rm.cells = mc ∧ rm.slots = ms ∧ rm.frames + 1 ≤ R.frames ∧ 8 + (maxL + 11) + rm.locals ≤ R.locals ∧ (∀ w ∈ ws, ∀ (a' : Array Value) (U : State), s.WarmedH U.vm → w.before a' U = true) ∧ Cond.codeWith y bytes maxL ret hh ∈ ws) ∧
  (Cond.codeWith y bytes maxL ret hh).before args s = true ∧ (Cond.initialized y.cls).before args s = true ∧ (y.cls ≠ "java/lang/invoke/MethodHandle" ∧ y.cls ≠ "java/lang/invoke/VarHandle") ∧
  (∀ sig, parseMethodDescriptor y.desc = some sig → n = sig.parameters.length) ∧ (Cond.methodLink own index y).before args s = true ∧ (Cond.static y).before args s = true
theorem vx_cwSW {own : String} {index maxL mc ms : Nat} {y : MethodName} {bytes : ByteArray} {ret : Option FieldType} {hh : List (Nat × Nat × Nat × Nat)} {Ts ws ws' : List Cond} {rm : Room} (n : Nat) (ht : ∀ w ∈ Ts, w.before args s = true) (hT : GoodIn Ts (va_wsS own index y ws)) (hw : ws = Cond.codeWith y bytes maxL ret hh :: ws') (hrc : rm.cells = mc) (hrs : rm.slots = ms)
    (hd : y.cls ≠ "java/lang/invoke/MethodHandle" ∧ y.cls ≠ "java/lang/invoke/VarHandle" ∧ (parseMethodDescriptor y.desc).map (fun d => d.parameters.length) = some n) (hR : rm.frames + 1 ≤ R.frames ∧ 8 + (maxL + 11) + rm.locals ≤ R.locals) :
    vx_CSW R s args own index y bytes maxL ret hh ws rm mc ms n := by
  have ok : ∀ w ∈ va_wsS own index y ws, w.before args s = true := fun w h => ht w (hT w h).1
  have hG : GoodIn Ts ws := fun w h => hT w (by unfold va_wsS; exact List.mem_append_right _ h)
  have hc : Cond.codeWith y bytes maxL ret hh ∈ ws := by rw [hw]; exact List.mem_cons_self
  refine ⟨⟨hrc, hrs, hR.1, hR.2, pay_in ht hG, hc⟩, ht _ (hG _ hc).1, ok _ (by simp [va_wsS]), ⟨hd.1, hd.2.1⟩, fun sig h => ?_, ok _ (by simp [va_wsS]), ok _ (by simp [va_wsS])⟩
  have h2 := hd.2.2
  rw [h] at h2
  exact (Option.some.inj h2).symm
theorem vx_callSW (X : Stand p l e R s m args below meth c T locs cells slots) (hexec : p.tables.exec = Jvm.exec) {own : String} {index : Nat} {y : MethodName} {bytes : ByteArray} {maxL : Nat} {ret : Option FieldType} {hh : List (Nat × Nat × Nat × Nat)}
    (hown : s.vm.findClass own = some m.cls) (hlink : (Cond.methodLink own index y).before args s = true) (hstat : (Cond.static y).before args s = true) (hinit : (Cond.initialized y.cls).before args s = true)
    (hcode : (Cond.codeWith y bytes maxL ret hh).before args s = true) (hy : y.cls ≠ "java/lang/invoke/MethodHandle" ∧ y.cls ≠ "java/lang/invoke/VarHandle")
    {W9 : Nat} {Pre : Pt → Array Value → Prop} {Post : Pt → Array Value → Option Value → Pt → Prop} (hK : Back l R p e below s args y 3 W9 Pre Post)
    {g : JFrame} (hg : g.method = m) (hsize : g.locals.size = c.maxLocals) {argsL rest : List Value} (hlen : ∀ sig, parseMethodDescriptor y.desc = some sig → argsL.length = sig.parameters.length)
    (hstack : g.stack = argsL.reverse ++ rest) (hW : 2 * g.monitorRoom + (rest.map fun v => v.category).sum ≤ W9) (hdg : decode c.code g.pc = .ok (.invokestatic index, 3))
    (hpre : ∀ vm₁, s.WarmedH vm₁ → Pre ⟨T.setVm vm₁, locs, cells, slots⟩ argsL.toArray) :
    ∃ (v : Option Value) (vm₁ : Vm) (B : Pt), s.WarmedH vm₁ ∧ Stand p l e R s m args below meth c B.U B.locs B.cells B.slots ∧ Post ⟨T.setVm vm₁, locs, cells, slots⟩ argsL.toArray v B ∧
      ∀ target, Steps p.tables e below (B.U.setTop { g with pc := g.pc + 3, stack := v.toList ++ rest }) target → Steps p.tables e below (T.setTop g) target := by
  obtain ⟨mk, methM, cM, hnamed, hmethM, -, -, -, -, -, -, hsigM⟩ := Cond.codeWith_spec hcode
  have hstatic : methM.isStatic = true := Cond.static_spec hnamed hmethM hstat
  obtain ⟨kP, hkP, -⟩ := className_of_methodNamed hnamed
  have hinitP : kP.init = .initialized := Cond.initialized_spec (findClass_of_methodNamed hnamed) hkP hinit
  obtain ⟨vm₁, X₁, hstep₁⟩ := X.invokestatic hexec hown hlink hnamed hmethM hstatic hkP hinitP hy (g := g) hg (argsL := argsL) (rest := rest) (hlen _ hsigM) hstack hdg
  obtain ⟨v, B, X', hpost, hsteps⟩ := hK m meth c ⟨T.setVm vm₁, locs, cells, slots⟩ { g with stack := rest } (.invokestatic index) mk argsL.toArray X₁ hg hsize hdg hW (X₁.named hnamed) (hpre vm₁ X₁.warmed)
  exact ⟨v, vm₁, B, X₁.warmed, X', hpost, fun target h => hstep₁ _ fun acts => by rw [doInvoke_state]; exact hsteps.trans h⟩
theorem vx_runSW {y : MethodName} {bytes cc : ByteArray} {maxL nL mc ms n index : Nat} {ret : Option FieldType} {hh : List (Nat × Nat × Nat × Nat)} {ws : List Cond} {rm : Room} {Pc : Array Value → State → Prop} {Qc : Array Value → State → Outcome → State → Prop} {free : Addr → Prop} {Ts : List Cond} {own : String} {As rest : List Value} {g : JFrame}
    (S : CallFix p m c cc nL s args Ts own) (hM : Met l y ws rm Pc Qc mc ms free) (cw : vx_CSW R s args own index y bytes maxL ret hh ws rm mc ms n) (hp : PreS s H Pc As)
    (hg : g.method = m) (hn : As.length = n) (hsize : g.locals.size = nL) (hstack : g.stack = As.reverse ++ rest) (hW : 2 * g.monitorRoom + (rest.map fun v => v.category).sum ≤ 8) (hdg : decode cc g.pc = .ok (.invokestatic index, 3)) (hf : cells + mc ≤ R.cells ∧ slots + ms ≤ R.slots) :
    va_Run p l e R s m args below meth c H locs cells slots mc ms g rest (Qc As.toArray) (free) := by
  obtain ⟨⟨hrc, hrs, hfr, hlo, hws, hcw⟩, hcode, hini, hy, hlen, hl, hstt⟩ := cw
  have hK : Back l R p e below s args y 3 8 (PreOf R mc ms Pc) (PostOf Qc mc ms free) := va_backW (hh := hh) (bytes := bytes) (maxL := maxL) (ret := ret) hM hp.1 hrc hrs hfr hlo hws hcw (fun a' U hW => word_at hW (Or.inl (by first | rfl | simp [Cond.onTables, Cond.keeps, Cond.steady])) hini)
  obtain ⟨hx, hb, hml, ho, -⟩ := S
  intro T hT X
  obtain ⟨v, vm₁, ⟨U', l2, c2, s2⟩, hW₁, X', ⟨g', mk, t, L, e1, e2, hq, h1, hL, h2, h3⟩, st⟩ := vx_callSW X hx (hh := hh) (bytes := bytes) (maxL := maxL) (ret := ret) ho hl hstt hini hcode hy hK hg (hsize.trans hml.symm) (argsL := As) (rest := rest) (fun sig h => hn.trans (hlen sig h)) hstack hW (by rw [hb]; exact hdg)
    (fun vm₁ hW₁ => ⟨hf.1, hf.2, hp.2 (T.setVm vm₁) hT hW₁⟩)
  dsimp only [Pt.U, Pt.locs, Pt.cells, Pt.slots] at X' e1 e2 h1 h2 h3 st
  subst h1; subst h2; subst h3
  exact ⟨v, (T.setVm vm₁).calling g' mk As.toArray, t, U', L, hT, X', hL, e1, e2, hq, st⟩
/-- not caught here, past rows that name other classes: it goes on to the caller -/
theorem vx_outP {p : Program} {l : Launch} {e : Env} {R : Room} {s : State} {m : MethodId} {args : Array Value} {below : List Frame} {meth : Method} {c : Code} {H : Heap} {locs : List Loc} {cells slots : Nat} {free : Addr → Prop} {ls : Array Slot} {rest : List Value} {Qc : Array Value → State → Outcome → State → Prop} {XC : String → State → State → Prop}
    {pc : Nat} {own E : String} {ce : Cell} {q : Addr} {mc ms : Nat} (hown : s.vm.findClass own = some m.cls) (hlocks : meth.locks = false)
    (hpass : ∀ z ∈ c.exceptionTable.toList, covers z pc = false ∨ (z.catchType ≠ 0 ∧ ∃ nm : String, (Cond.classLink own z.catchType nm).before args s = true ∧ va_Nc E nm s)) (hcell : H[q]? = some ce) (hv : ce.vm = .none) (hcl : s.vm.findClass E = some ce.cls)
    (hx : ∀ t : State, t.heap = H → s.vm.Alike t.vm → XC E s t) (hf : ∀ z ∈ locs, free z.base) (hc : cells ≤ mc) (hs : slots ≤ ms) :
    vx_W p l e R s m args below meth c H locs cells slots (vx_MQ below Qc XC args s mc ms free) (F0 m pc ls rest) q := by
  intro T hT X
  have hpl : e.platform.magicAccessors = ({} : Platform).magicAccessors := by rw [X.admits.platform]
  obtain ⟨vm', hW', X', st⟩ := X.outThrough hlocks q (g := F0 m pc ls rest) rfl rfl rfl (cell := ce) (by rw [hT]; exact hcell) (by rw [hv]; rfl)
    (by obtain ⟨k9, h9, -⟩ := Vm.findClass_spec hcl; exact ⟨k9, h9⟩) (fun z hz => by
      rcases hpass z hz with h | ⟨hz0, nm, hl1, hn1⟩
      · exact Or.inl h
      · obtain ⟨c6, hc6, hcl6⟩ := Cond.classLink_spec hown hl1 e.platform hpl
        obtain ⟨a8, b8, h1, h2, h3⟩ := hn1
        cases Option.some.inj (h1.symm.trans hcl)
        cases Option.some.inj (h2.symm.trans hc6)
        exact Or.inr ⟨hz0, _, hcl6, h3⟩)
  obtain ⟨g₀, hfr⟩ := X'.frames_eq
  have hcell9 : ((T.setVm vm').setFrames (.throwing q :: below)).heap[q]? = some ce := by
    show T.heap[q]? = some ce
    rw [hT]; exact hcell
  have hend : Ended ((T.setVm vm').setFrames (.throwing q :: below)) below (.threw q) := State.frames_setFrames _ (State.cur_lt_of_frames hfr)
  refine ⟨(T.setVm vm').setFrames (.throwing q :: below), ?_, .threw q, X'.here.running, hend, Or.inr ⟨q, rfl, E, ce, locs, hx _ hT (X'.ends _).1.alike, hcell9, hv, hcl, (X'.ends _).1, (X'.ends _).2.mono hc hs, hf⟩⟩
  rw [X.pushThrowing_eq]
  exact st
/-- a thing of a world lies in the heap -/
theorem vx_lt {D : va_G} {cl : List vw_C} {ws : va_W} {H1 : Heap} (h : va_P D cl ws H1) {k : Nat} {q : Nat × va_E} (hk : ws[k]? = some q) : q.1 < H1.size := (h k q hk).lt
end VXS
/-! ===== END ===== -/
/-! ===== BEGIN methods with a table of their own: called by a name, returning or throwing ===== -/
section VXH
/-! vx_backW, vx_callVX, vx_callSX, vx_callVW, vx_runVW, vx_runVX, vx_runSX, vx_ofWH follow the same proofs as their sisters above (Free/Laws.lean, Shelf42/LK1.lean); vx_outP calls Shelf42/NT130.lean (outThrough). -/
section
variable {l : Launch} {R : Room} {p : Program} {e : Env} {below : List Frame} {s : State} {sargs : Array Value} {y : MethodName} {len W9 : Nat}
theorem vx_backW {ws : List Cond} {rm : Room} {Pc : Array Value → State → Prop} {Qc : Array Value → State → Outcome → State → Prop} {XC : String → State → State → Prop} {mc ms : Nat} {free : Addr → Prop} {bytes : ByteArray} {maxL : Nat} {ret : Option FieldType} {hh : List (Nat × Nat × Nat × Nat)}
    (hM : vx_Met l y ws rm Pc Qc XC mc ms free) (hblind : FrameBlind Pc) (hrc : rm.cells = mc) (hrs : rm.slots = ms)
    (hframes : rm.frames + 1 ≤ R.frames) (hlocals : W9 + (maxL + 11) + rm.locals ≤ R.locals)
    (hws : ∀ w ∈ ws, ∀ a' U, s.WarmedH U.vm → w.before a' U = true) (hcode : Cond.codeWith y bytes maxL ret hh ∈ ws) (hinit : ∀ a' U, s.WarmedH U.vm → (Cond.initialized y.cls).before a' U = true) :
    vx_Back l R p e below s sargs y len W9 (PreOf R mc ms Pc) (PostOf Qc mc ms free) (vx_Post XC mc ms free) := by
  intro m meth c A g ig mk a X hg hsize hdg hW hn hp
  have h1 : (headSpec ws rm).pre.before a A.U = true := atoms_intro fun w hw => hws w hw _ _ X.warmed
  have h2 : (Cond.codeWith y bytes maxL ret hh).before a A.U = true := hws _ hcode _ _ X.warmed
  have h3 : (Cond.initialized y.cls).before a A.U = true := hinit _ _ X.warmed
  have h4 : A.cells + (headSpec ws rm).room.cells ≤ R.cells := by rw [show (headSpec ws rm).room.cells = mc from hrc]; exact hp.1
  have h5 : A.slots + (headSpec ws rm).room.slots ≤ R.slots := by rw [show (headSpec ws rm).room.slots = ms from hrs]; exact hp.2.1
  have hPc : Pc a (A.U.calling g mk a) := hblind _ _ _ _ hp.2.2
  obtain ⟨U, Ls, c0, s0⟩ := A
  dsimp only [Pt.U, Pt.locs, Pt.cells, Pt.slots] at h1 h2 h3 h4 h5 X hn hPc ⊢
  obtain ⟨m9, methY, cY, hn9, hmY, hcY, -, hlY, -⟩ := Cond.codeWith_spec h2
  cases Option.some.inj (hn9.symm.trans hn)
  obtain ⟨kY, hkY, -⟩ := className_of_methodNamed hn
  have hinitY : kY.init = .initialized := Cond.initialized_spec (findClass_of_methodNamed hn) hkY h3
  have h : At U g.method c below := by rw [hg]; exact X.here
  have hlocals9 : W9 + (maxL + 11) + (headSpec ws rm).room.locals ≤ R.locals := hlocals
  have happ : (headSpec ws rm).appliesLoose y e.platform (U.calling g mk a) = true :=
    Spec.appliesLoose_calling (g := g) h hdg hn hkY hinitY
      (X.room_calling (g := g) (R' := (headSpec ws rm).room) hsize hmY hcY hframes (by rw [hlY]; omega) h4 h5) h1
  obtain ⟨mid, hmid⟩ := h.above
  have hfr : (U.setTop g).frames = (.java g :: mid) ++ below := by rw [State.frames_setTop' g h.top, hmid]; rfl
  obtain ⟨o, s₂, hsteps, -, hend, hq⟩ := Steps.callFree hM p X.admits X.cas X.clock (acts := []) hfr happ hPc trivial
  have hq' : vx_Q Qc XC mc ms free a (U.calling g mk a) o s₂ := hq
  rw [State.frames_setTop' g h.top] at hend
  obtain ⟨g₀, hg0⟩ := Option.isSome_iff_exists.mp h.top
  obtain ⟨r, hr⟩ := State.topJava?_eq_some.mp hg0
  have hr' : (({ U with heap := s₂.heap, slotsUsed := s₂.slotsUsed } : State).setVm s₂.vm).frames = .java g₀ :: r := hr
  rcases hq' with ⟨hqc, L, hfe, hL⟩ | ⟨q, rfl, E, ce, L, hx, hce, hcv, hcl, hW₂, hsm, hL⟩
  · obtain ⟨⟨v, rfl⟩, hW₂, e2, q2, q3, q4, q5, q6⟩ := id hfe
    have e3 : s₂ = ({ (U.calling g mk a).setFrames s₂.frames with heap := s₂.heap, slotsUsed := s₂.slotsUsed } : State).setVm s₂.vm := by
      have : s₂ = ({ s₂ with vm := (U.calling g mk a).vm } : State).setVm s₂.vm := rfl
      rw [e2] at this
      exact this
    obtain ⟨c₂, i₂, len₂, hc₂, hd₂, hf₂⟩ := hend
    have hW' : U.WarmedH s₂.vm := hW₂
    have hcc : c₂ = c := by
      have h1 : s₂.code? g.method = U.code? g.method := by
        rw [State.code?_eq, State.code?_eq, hW'.alike.method?]
      exact Option.some.inj (hc₂.symm.trans (h1.trans h.code))
    subst hcc
    have hlen : len₂ = len := by rw [hdg] at hd₂; cases hd₂; rfl
    subst hlen
    have hs₂ : s₂ = (({ U with heap := s₂.heap, slotsUsed := s₂.slotsUsed } : State).setVm s₂.vm).setTop { g with pc := g.pc + len₂, stack := v.toList ++ g.stack } := by
      refine e3.trans ?_
      rw [hf₂, State.calling_eq h.top, State.setFrames_setFrames, State.setTop_of_frames _ hr', hr]
      rfl
    have hsame : U.sameButNew ({ U with heap := s₂.heap, slotsUsed := s₂.slotsUsed } : State) L mc ms := by
      refine ⟨?_, q2, q3, q4, q5, q6⟩
      obtain ⟨t, ht, -⟩ := State.frames_cons hr
      show ({ U with heap := s₂.heap, slotsUsed := s₂.slotsUsed } : State) = { U.setFrames U.frames with heap := s₂.heap, slotsUsed := s₂.slotsUsed }
      rw [State.setFrames_self ht]
    subst hg
    refine Or.inl ⟨v, ⟨(({ U with heap := s₂.heap, slotsUsed := s₂.slotsUsed } : State).setVm s₂.vm), Ls ++ L, c0 + mc, s0 + ms⟩,
      ⟨X.admits, X.cas, X.clock, X.frames, X.room, X.hears, X.method, X.code, (X.here.setHeapUsed s₂.heap s₂.slotsUsed).setVm hW'.alike, X.tail, State.WarmedH.trans X.warmed hW', X.limits, X.bytes, X.same.trans (hsame.setVm s.vm)⟩,
      ⟨g, mk, s₂, L, rfl, rfl, hqc, rfl, hL, rfl, rfl⟩, ?_⟩
    show Steps p.tables e below _ ((({ U with heap := s₂.heap, slotsUsed := s₂.slotsUsed } : State).setVm s₂.vm).setTop { g with pc := g.pc + len₂, stack := v.toList ++ g.stack })
    rw [← hs₂]
    exact hsteps
  · obtain ⟨e2, q2, q3, q4, q5, q6⟩ := id hsm
    have e3 : s₂ = ({ (U.calling g mk a).setFrames s₂.frames with heap := s₂.heap, slotsUsed := s₂.slotsUsed } : State).setVm s₂.vm := by
      have : s₂ = ({ s₂ with vm := (U.calling g mk a).vm } : State).setVm s₂.vm := rfl
      rw [e2] at this
      exact this
    have hf₂ : s₂.frames = .throwing q :: .java g :: U.frames.tail := hend
    have hW' : U.WarmedH s₂.vm := hW₂
    have hs₂ : s₂ = ((({ U with heap := s₂.heap, slotsUsed := s₂.slotsUsed } : State).setVm s₂.vm).setTop g).pushFrame (.throwing q) := by
      refine e3.trans ?_
      rw [hf₂, State.calling_eq h.top, State.setFrames_setFrames, State.pushFrame, State.frames_setTop _ hr', State.setTop_of_frames _ hr', State.setFrames_setFrames, hr]
      rfl
    have hsame : U.sameButNew ({ U with heap := s₂.heap, slotsUsed := s₂.slotsUsed } : State) L mc ms := by
      refine ⟨?_, q2, q3, q4, q5, q6⟩
      obtain ⟨t, ht, -⟩ := State.frames_cons hr
      show ({ U with heap := s₂.heap, slotsUsed := s₂.slotsUsed } : State) = { U.setFrames U.frames with heap := s₂.heap, slotsUsed := s₂.slotsUsed }
      rw [State.setFrames_self ht]
    subst hg
    refine Or.inr ⟨q, ⟨(({ U with heap := s₂.heap, slotsUsed := s₂.slotsUsed } : State).setVm s₂.vm), Ls ++ L, c0 + mc, s0 + ms⟩,
      ⟨X.admits, X.cas, X.clock, X.frames, X.room, X.hears, X.method, X.code, (X.here.setHeapUsed s₂.heap s₂.slotsUsed).setVm hW'.alike, X.tail, State.WarmedH.trans X.warmed hW', X.limits, X.bytes, X.same.trans (hsame.setVm s.vm)⟩,
      ⟨g, mk, s₂, L, E, ce, rfl, rfl, hx, hce, hcv, hcl, rfl, hL, rfl, rfl⟩, ?_⟩
    show Steps p.tables e below _ (((({ U with heap := s₂.heap, slotsUsed := s₂.slotsUsed } : State).setVm s₂.vm).setTop g).pushFrame (.throwing q))
    rw [← hs₂]
    exact hsteps
end
variable {p : Program} {l : Launch} {e : Env} {R : Room} {s : State} {m : MethodId} {args : Array Value} {below : List Frame} {meth : Method} {c : Code} {T : State} {H : Heap} {locs : List Loc} {cells slots : Nat}
theorem vx_callVX (X : Stand p l e R s m args below meth c T locs cells slots) (hexec : p.tables.exec = Jvm.exec) {own C : String} {index : Nat} {y : MethodName} {bytes : ByteArray} {maxL : Nat} {ret : Option FieldType} {hh : List (Nat × Nat × Nat × Nat)}
    (hown : s.vm.findClass own = some m.cls) (hlink : (Cond.methodLink own index y).before args s = true) (hinst : (Cond.instanceMethod y).before args s = true) (hsel : (Cond.selects C y y).before args s = true)
    (hcode : (Cond.codeWith y bytes maxL ret hh).before args s = true) (hy : y.cls ≠ "java/lang/invoke/MethodHandle" ∧ y.cls ≠ "java/lang/invoke/VarHandle")
    {W9 : Nat} {Pre : Pt → Array Value → Prop} {Post : Pt → Array Value → Option Value → Pt → Prop} {PostX : Pt → Array Value → Addr → Pt → Prop} (hK : vx_Back l R p e below s args y 3 W9 Pre Post PostX)
    {b : Addr} {cellB : Cell} (hcell : T.heap[b]? = some cellB) (hobj : cellB.vm.isStatics = false) (hcls : s.vm.findClass C = some cellB.cls)
    {g : JFrame} (hg : g.method = m) (hsize : g.locals.size = c.maxLocals) {argsL rest : List Value} (hlen : ∀ sig, parseMethodDescriptor y.desc = some sig → argsL.length = sig.parameters.length)
    (hstack : g.stack = argsL.reverse ++ .ref b :: rest) (hW : 2 * g.monitorRoom + (rest.map fun v => v.category).sum ≤ W9) (hdg : decode c.code g.pc = .ok (.invokevirtual index, 3))
    (hpre : ∀ vm₁, s.WarmedH vm₁ → Pre ⟨T.setVm vm₁, locs, cells, slots⟩ (Value.ref b :: argsL).toArray) :
    (∃ (v : Option Value) (vm₁ : Vm) (B : Pt), s.WarmedH vm₁ ∧ Stand p l e R s m args below meth c B.U B.locs B.cells B.slots ∧ Post ⟨T.setVm vm₁, locs, cells, slots⟩ (Value.ref b :: argsL).toArray v B ∧
      ∀ target, Steps p.tables e below (B.U.setTop { g with pc := g.pc + 3, stack := v.toList ++ rest }) target → Steps p.tables e below (T.setTop g) target) ∨
    (∃ (q : Addr) (vm₁ : Vm) (B : Pt), s.WarmedH vm₁ ∧ Stand p l e R s m args below meth c B.U B.locs B.cells B.slots ∧ PostX ⟨T.setVm vm₁, locs, cells, slots⟩ (Value.ref b :: argsL).toArray q B ∧
      Steps p.tables e below (T.setTop g) ((B.U.setTop { g with stack := rest }).pushFrame (.throwing q))) := by
  obtain ⟨mk, methM, hnamed, hmethM, hstM, habM⟩ := Cond.instanceMethod_spec hinst
  obtain ⟨m8, methM', cM, hn8, hmethM', -, -, -, -, -, -, hsigM⟩ := Cond.codeWith_spec hcode
  cases Option.some.inj (hn8.symm.trans hnamed)
  cases hmethM.symm.trans hmethM'
  obtain ⟨c2, r2, m2, q1, q2, q3, q4, kP, hkP, hkPi⟩ := Cond.selects_spec hsel
  cases hcls.symm.trans q1
  cases (State.methodFound?_of_named hnamed hy).symm.trans q2
  cases hnamed.symm.trans q3
  have hselP : selectMethod e.platform s.vm cellB.cls mk = .method mk := by rw [Launch.admits_selectMethod X.admits]; exact q4
  obtain ⟨vm₁, X₁, hstep₁⟩ := X.invokevirtual hexec hown hlink hnamed hmethM hstM hkP hkPi hy (a := b) (cell := cellB) hcell
    (fun z h => by rw [h] at hobj; cases hobj) hselP hmethM habM hkP hkPi (g := g) hg (argsL := argsL) (rest := rest) (hlen _ hsigM) hstack hdg
  rcases hK m meth c ⟨T.setVm vm₁, locs, cells, slots⟩ { g with stack := rest } (.invokevirtual index) mk (Value.ref b :: argsL).toArray X₁ hg hsize hdg hW (X₁.named hnamed) (hpre vm₁ X₁.warmed) with ⟨v, B, X', hpost, hsteps⟩ | ⟨q, B, X', hpost, hsteps⟩
  · exact Or.inl ⟨v, vm₁, B, X₁.warmed, X', hpost, fun target h => hstep₁ _ fun acts => by rw [doInvoke_state]; exact hsteps.trans h⟩
  · exact Or.inr ⟨q, vm₁, B, X₁.warmed, X', hpost, hstep₁ _ fun acts => by rw [doInvoke_state]; exact hsteps⟩
theorem vx_callSX (X : Stand p l e R s m args below meth c T locs cells slots) (hexec : p.tables.exec = Jvm.exec) {own : String} {index : Nat} {y : MethodName} {bytes : ByteArray} {maxL : Nat} {ret : Option FieldType} {hh : List (Nat × Nat × Nat × Nat)}
    (hown : s.vm.findClass own = some m.cls) (hlink : (Cond.methodLink own index y).before args s = true) (hstat : (Cond.static y).before args s = true) (hinit : (Cond.initialized y.cls).before args s = true)
    (hcode : (Cond.codeWith y bytes maxL ret hh).before args s = true) (hy : y.cls ≠ "java/lang/invoke/MethodHandle" ∧ y.cls ≠ "java/lang/invoke/VarHandle")
    {W9 : Nat} {Pre : Pt → Array Value → Prop} {Post : Pt → Array Value → Option Value → Pt → Prop} {PostX : Pt → Array Value → Addr → Pt → Prop} (hK : vx_Back l R p e below s args y 3 W9 Pre Post PostX)
    {g : JFrame} (hg : g.method = m) (hsize : g.locals.size = c.maxLocals) {argsL rest : List Value} (hlen : ∀ sig, parseMethodDescriptor y.desc = some sig → argsL.length = sig.parameters.length)
    (hstack : g.stack = argsL.reverse ++ rest) (hW : 2 * g.monitorRoom + (rest.map fun v => v.category).sum ≤ W9) (hdg : decode c.code g.pc = .ok (.invokestatic index, 3))
    (hpre : ∀ vm₁, s.WarmedH vm₁ → Pre ⟨T.setVm vm₁, locs, cells, slots⟩ argsL.toArray) :
    (∃ (v : Option Value) (vm₁ : Vm) (B : Pt), s.WarmedH vm₁ ∧ Stand p l e R s m args below meth c B.U B.locs B.cells B.slots ∧ Post ⟨T.setVm vm₁, locs, cells, slots⟩ argsL.toArray v B ∧
      ∀ target, Steps p.tables e below (B.U.setTop { g with pc := g.pc + 3, stack := v.toList ++ rest }) target → Steps p.tables e below (T.setTop g) target) ∨
    (∃ (q : Addr) (vm₁ : Vm) (B : Pt), s.WarmedH vm₁ ∧ Stand p l e R s m args below meth c B.U B.locs B.cells B.slots ∧ PostX ⟨T.setVm vm₁, locs, cells, slots⟩ argsL.toArray q B ∧
      Steps p.tables e below (T.setTop g) ((B.U.setTop { g with stack := rest }).pushFrame (.throwing q))) := by
  obtain ⟨mk, methM, cM, hnamed, hmethM, -, -, -, -, -, -, hsigM⟩ := Cond.codeWith_spec hcode
  have hstatic : methM.isStatic = true := Cond.static_spec hnamed hmethM hstat
  obtain ⟨kP, hkP, -⟩ := className_of_methodNamed hnamed
  have hinitP : kP.init = .initialized := Cond.initialized_spec (findClass_of_methodNamed hnamed) hkP hinit
  obtain ⟨vm₁, X₁, hstep₁⟩ := X.invokestatic hexec hown hlink hnamed hmethM hstatic hkP hinitP hy (g := g) hg (argsL := argsL) (rest := rest) (hlen _ hsigM) hstack hdg
  rcases hK m meth c ⟨T.setVm vm₁, locs, cells, slots⟩ { g with stack := rest } (.invokestatic index) mk argsL.toArray X₁ hg hsize hdg hW (X₁.named hnamed) (hpre vm₁ X₁.warmed) with ⟨v, B, X', hpost, hsteps⟩ | ⟨q, B, X', hpost, hsteps⟩
  · exact Or.inl ⟨v, vm₁, B, X₁.warmed, X', hpost, fun target h => hstep₁ _ fun acts => by rw [doInvoke_state]; exact hsteps.trans h⟩
  · exact Or.inr ⟨q, vm₁, B, X₁.warmed, X', hpost, hstep₁ _ fun acts => by rw [doInvoke_state]; exact hsteps⟩
theorem vx_callVW (X : Stand p l e R s m args below meth c T locs cells slots) (hexec : p.tables.exec = Jvm.exec) {own C : String} {index : Nat} {y : MethodName} {bytes : ByteArray} {maxL : Nat} {ret : Option FieldType} {hh : List (Nat × Nat × Nat × Nat)}
    (hown : s.vm.findClass own = some m.cls) (hlink : (Cond.methodLink own index y).before args s = true) (hinst : (Cond.instanceMethod y).before args s = true) (hsel : (Cond.selects C y y).before args s = true)
    (hcode : (Cond.codeWith y bytes maxL ret hh).before args s = true) (hy : y.cls ≠ "java/lang/invoke/MethodHandle" ∧ y.cls ≠ "java/lang/invoke/VarHandle")
    {W9 : Nat} {Pre : Pt → Array Value → Prop} {Post : Pt → Array Value → Option Value → Pt → Prop} (hK : Back l R p e below s args y 3 W9 Pre Post)
    {b : Addr} {cellB : Cell} (hcell : T.heap[b]? = some cellB) (hobj : cellB.vm.isStatics = false) (hcls : s.vm.findClass C = some cellB.cls)
    {g : JFrame} (hg : g.method = m) (hsize : g.locals.size = c.maxLocals) {argsL rest : List Value} (hlen : ∀ sig, parseMethodDescriptor y.desc = some sig → argsL.length = sig.parameters.length)
    (hstack : g.stack = argsL.reverse ++ .ref b :: rest) (hW : 2 * g.monitorRoom + (rest.map fun v => v.category).sum ≤ W9) (hdg : decode c.code g.pc = .ok (.invokevirtual index, 3))
    (hpre : ∀ vm₁, s.WarmedH vm₁ → Pre ⟨T.setVm vm₁, locs, cells, slots⟩ (Value.ref b :: argsL).toArray) :
    ∃ (v : Option Value) (vm₁ : Vm) (B : Pt), s.WarmedH vm₁ ∧ Stand p l e R s m args below meth c B.U B.locs B.cells B.slots ∧ Post ⟨T.setVm vm₁, locs, cells, slots⟩ (Value.ref b :: argsL).toArray v B ∧
      ∀ target, Steps p.tables e below (B.U.setTop { g with pc := g.pc + 3, stack := v.toList ++ rest }) target → Steps p.tables e below (T.setTop g) target := by
  obtain ⟨mk, methM, hnamed, hmethM, hstM, habM⟩ := Cond.instanceMethod_spec hinst
  obtain ⟨m8, methM', cM, hn8, hmethM', -, -, -, -, -, -, hsigM⟩ := Cond.codeWith_spec hcode
  cases Option.some.inj (hn8.symm.trans hnamed)
  cases hmethM.symm.trans hmethM'
  obtain ⟨c2, r2, m2, q1, q2, q3, q4, kP, hkP, hkPi⟩ := Cond.selects_spec hsel
  cases hcls.symm.trans q1
  cases (State.methodFound?_of_named hnamed hy).symm.trans q2
  cases hnamed.symm.trans q3
  have hselP : selectMethod e.platform s.vm cellB.cls mk = .method mk := by rw [Launch.admits_selectMethod X.admits]; exact q4
  obtain ⟨vm₁, X₁, hstep₁⟩ := X.invokevirtual hexec hown hlink hnamed hmethM hstM hkP hkPi hy (a := b) (cell := cellB) hcell
    (fun z h => by rw [h] at hobj; cases hobj) hselP hmethM habM hkP hkPi (g := g) hg (argsL := argsL) (rest := rest) (hlen _ hsigM) hstack hdg
  obtain ⟨v, B, X', hpost, hsteps⟩ := hK m meth c ⟨T.setVm vm₁, locs, cells, slots⟩ { g with stack := rest } (.invokevirtual index) mk (Value.ref b :: argsL).toArray X₁ hg hsize hdg hW (X₁.named hnamed) (hpre vm₁ X₁.warmed)
  exact ⟨v, vm₁, B, X₁.warmed, X', hpost, fun target h => hstep₁ _ fun acts => by rw [doInvoke_state]; exact hsteps.trans h⟩
abbrev vx_CVW (R : Room) (s : State) (args : Array Value) (own C : String) (index : Nat) (y : MethodName) (bytes : ByteArray) (maxL : Nat) (ret : Option FieldType) (hh : List (Nat × Nat × Nat × Nat)) (ws : List Cond) (rm : Room) (mc ms n : Nat) : Prop :=
  (rm.cells = mc ∧ rm.slots = ms ∧ rm.frames + 1 ≤ R.frames ∧ 8 + (maxL + 11) + rm.locals ≤ R.locals ∧ (∀ w ∈ ws, ∀ (a' : Array Value) (U : State), s.WarmedH U.vm → w.before a' U = true) ∧ Cond.codeWith y bytes maxL ret hh ∈ ws) ∧
  (Cond.codeWith y bytes maxL ret hh).before args s = true ∧ (Cond.initialized y.cls).before args s = true ∧ (y.cls ≠ "java/lang/invoke/MethodHandle" ∧ y.cls ≠ "java/lang/invoke/VarHandle") ∧
  (∀ sig, parseMethodDescriptor y.desc = some sig → n = sig.parameters.length) ∧ (Cond.methodLink own index y).before args s = true ∧ (Cond.instanceMethod y).before args s = true ∧ (Cond.selects C y y).before args s = true
theorem vx_cwVW {own C : String} {index maxL mc ms : Nat} {y : MethodName} {bytes : ByteArray} {ret : Option FieldType} {hh : List (Nat × Nat × Nat × Nat)} {Ts ws ws' : List Cond} {rm : Room} (n : Nat) (ht : ∀ w ∈ Ts, w.before args s = true) (hT : GoodIn Ts (wsV own index C y ws)) (hw : ws = Cond.codeWith y bytes maxL ret hh :: ws') (hrc : rm.cells = mc) (hrs : rm.slots = ms)
    (hd : y.cls = C ∧ y.cls ≠ "java/lang/invoke/MethodHandle" ∧ y.cls ≠ "java/lang/invoke/VarHandle" ∧ (parseMethodDescriptor y.desc).map (fun d => d.parameters.length) = some n) (hR : rm.frames + 1 ≤ R.frames ∧ 8 + (maxL + 11) + rm.locals ≤ R.locals) :
    vx_CVW R s args own C index y bytes maxL ret hh ws rm mc ms n := by
  obtain ⟨hC, hd⟩ := hd
  subst hC
  have ok : ∀ w ∈ wsV own index y.cls y ws, w.before args s = true := fun w h => ht w (hT w h).1
  have hG : GoodIn Ts ws := fun w h => hT w (by unfold wsV; exact List.mem_append_right _ h)
  have hc : Cond.codeWith y bytes maxL ret hh ∈ ws := by rw [hw]; exact List.mem_cons_self
  refine ⟨⟨hrc, hrs, hR.1, hR.2, pay_in ht hG, hc⟩, ht _ (hG _ hc).1, ok _ (by simp [wsV]), ⟨hd.1, hd.2.1⟩, fun sig h => ?_, ok _ (by simp [wsV]), ok _ (by simp [wsV]), ok _ (by simp [wsV])⟩
  have h2 := hd.2.2
  rw [h] at h2
  exact (Option.some.inj h2).symm
theorem vx_runVW {y : MethodName} {bytes cc : ByteArray} {maxL nL mc ms n index : Nat} {ret : Option FieldType} {hh : List (Nat × Nat × Nat × Nat)} {ws : List Cond} {rm : Room} {Pc : Array Value → State → Prop} {Qc : Array Value → State → Outcome → State → Prop} {free : Addr → Prop} {Ts : List Cond} {own C : String} {b : Addr} {As rest : List Value} {g : JFrame}
    (S : CallFix p m c cc nL s args Ts own) (hM : Met l y ws rm Pc Qc mc ms free) (cw : vx_CVW R s args own C index y bytes maxL ret hh ws rm mc ms n) (hp : PreV s H C b Pc As)
    (hg : g.method = m) (hn : As.length = n) (hsize : g.locals.size = nL) (hstack : g.stack = As.reverse ++ .ref b :: rest) (hW : 2 * g.monitorRoom + (rest.map fun v => v.category).sum ≤ 8) (hdg : decode cc g.pc = .ok (.invokevirtual index, 3)) (hf : cells + mc ≤ R.cells ∧ slots + ms ≤ R.slots) :
    va_Run p l e R s m args below meth c H locs cells slots mc ms g rest (Qc (Value.ref b :: As).toArray) free := by
  obtain ⟨⟨hrc, hrs, hfr, hlo, hws, hcw⟩, hcode, hini, hy, hlen, hl, hin, hse⟩ := cw
  have hK : Back l R p e below s args y 3 8 (PreOf R mc ms Pc) (PostOf Qc mc ms free) := va_backW (hh := hh) (bytes := bytes) (maxL := maxL) (ret := ret) hM hp.1 hrc hrs hfr hlo hws hcw (fun a' U hW => word_at hW (Or.inl (by first | rfl | simp [Cond.onTables, Cond.keeps, Cond.steady])) hini)
  obtain ⟨hx, hb, hml, ho, -⟩ := S
  obtain ⟨-, ⟨cellB, hcB, hoB, hclB⟩, hPc⟩ := hp
  intro T hT X
  obtain ⟨v, vm₁, ⟨U', l2, c2, s2⟩, hW₁, X', ⟨g', mk, t, L, e1, e2, hq, h1, hL, h2, h3⟩, st⟩ := vx_callVW X hx (C := C) (hh := hh) (bytes := bytes) (maxL := maxL) (ret := ret) ho hl hin hse hcode hy hK (by rw [hT]; exact hcB) hoB hclB hg (hsize.trans hml.symm) (argsL := As) (rest := rest) (fun sig h => hn.trans (hlen sig h)) hstack hW (by rw [hb]; exact hdg)
    (fun vm₁ hW₁ => ⟨hf.1, hf.2, hPc (T.setVm vm₁) hT hW₁⟩)
  dsimp only [Pt.U, Pt.locs, Pt.cells, Pt.slots] at X' e1 e2 h1 h2 h3 st
  subst h1; subst h2; subst h3
  exact ⟨v, (T.setVm vm₁).calling g' mk (Value.ref b :: As).toArray, t, U', L, hT, X', hL, e1, e2, hq, st⟩
section
variable {y : MethodName} {bytes cc : ByteArray} {maxL nL mc ms n index : Nat} {ret : Option FieldType} {ws : List Cond} {rm : Room} {Pc : Array Value → State → Prop} {Qc : Array Value → State → Outcome → State → Prop} {XC : String → State → State → Prop} {free : Addr → Prop} {Ts : List Cond} {own C : String} {b : Addr} {As rest : List Value} {g : JFrame}
theorem vx_runVX {hh : List (Nat × Nat × Nat × Nat)} (S : CallFix p m c cc nL s args Ts own) (hM : vx_Met l y ws rm Pc Qc XC mc ms free) (cw : vx_CVW R s args own C index y bytes maxL ret hh ws rm mc ms n) (hp : PreV s H C b Pc As)
    (hg : g.method = m) (hn : As.length = n) (hsize : g.locals.size = nL) (hstack : g.stack = As.reverse ++ .ref b :: rest) (hW : 2 * g.monitorRoom + (rest.map fun v => v.category).sum ≤ 8) (hdg : decode cc g.pc = .ok (.invokevirtual index, 3)) (hf : cells + mc ≤ R.cells ∧ slots + ms ≤ R.slots) :
    vx_Run p l e R s m args below meth c H locs cells slots mc ms g rest (Qc (Value.ref b :: As).toArray) XC free := by
  obtain ⟨⟨hrc, hrs, hfr, hlo, hws, hcw⟩, hcode, hini, hy, hlen, hl, hin, hse⟩ := cw
  have hK : vx_Back l R p e below s args y 3 8 (PreOf R mc ms Pc) (PostOf Qc mc ms free) (vx_Post XC mc ms free) := vx_backW (hh := hh) (bytes := bytes) (maxL := maxL) (ret := ret) hM hp.1 hrc hrs hfr hlo hws hcw (fun a' U hW => word_at hW (Or.inl (by first | rfl | simp [Cond.onTables, Cond.keeps, Cond.steady])) hini)
  obtain ⟨hx, hb, hml, ho, -⟩ := S
  obtain ⟨-, ⟨cellB, hcB, hoB, hclB⟩, hPc⟩ := hp
  intro T hT X
  rcases vx_callVX X hx (C := C) (hh := hh) (bytes := bytes) (maxL := maxL) (ret := ret) ho hl hin hse hcode hy hK (by rw [hT]; exact hcB) hoB hclB hg (hsize.trans hml.symm) (argsL := As) (rest := rest) (fun sig h => hn.trans (hlen sig h)) hstack hW (by rw [hb]; exact hdg)
    (fun vm₁ hW₁ => ⟨hf.1, hf.2, hPc (T.setVm vm₁) hT hW₁⟩) with ⟨v, vm₁, ⟨U', l2, c2, s2⟩, hW₁, X', ⟨g', mk, t, L, e1, e2, hq, h1, hL, h2, h3⟩, st⟩ | ⟨q, vm₁, ⟨U', l2, c2, s2⟩, hW₁, X', ⟨g', mk, t, L, E, ce, e1, e2, hq, hce, hcv, hcl, h1, hL, h2, h3⟩, st⟩
  · dsimp only [Pt.U, Pt.locs, Pt.cells, Pt.slots] at X' e1 e2 h1 h2 h3 st
    subst h1; subst h2; subst h3
    exact Or.inl ⟨v, (T.setVm vm₁).calling g' mk (Value.ref b :: As).toArray, t, U', L, hT, X', hL, e1, e2, hq, st⟩
  · dsimp only [Pt.U, Pt.locs, Pt.cells, Pt.slots] at X' e1 e2 h1 h2 h3 st hcl
    subst h1; subst h2; subst h3
    exact Or.inr ⟨q, (T.setVm vm₁).calling g' mk (Value.ref b :: As).toArray, t, U', L, E, ce, hT, X', hL, e1, e2, hq, hce, hcv, vx_cls hW₁ hcl, st⟩
theorem vx_runSX {hh : List (Nat × Nat × Nat × Nat)} (S : CallFix p m c cc nL s args Ts own) (hM : vx_Met l y ws rm Pc Qc XC mc ms free) (cw : vx_CSW R s args own index y bytes maxL ret hh ws rm mc ms n) (hp : PreS s H Pc As)
    (hg : g.method = m) (hn : As.length = n) (hsize : g.locals.size = nL) (hstack : g.stack = As.reverse ++ rest) (hW : 2 * g.monitorRoom + (rest.map fun v => v.category).sum ≤ 8) (hdg : decode cc g.pc = .ok (.invokestatic index, 3)) (hf : cells + mc ≤ R.cells ∧ slots + ms ≤ R.slots) :
    vx_Run p l e R s m args below meth c H locs cells slots mc ms g rest (Qc As.toArray) XC free := by
  obtain ⟨⟨hrc, hrs, hfr, hlo, hws, hcw⟩, hcode, hini, hy, hlen, hl, hstt⟩ := cw
  have hK : vx_Back l R p e below s args y 3 8 (PreOf R mc ms Pc) (PostOf Qc mc ms free) (vx_Post XC mc ms free) := vx_backW (hh := hh) (bytes := bytes) (maxL := maxL) (ret := ret) hM hp.1 hrc hrs hfr hlo hws hcw (fun a' U hW => word_at hW (Or.inl (by first | rfl | simp [Cond.onTables, Cond.keeps, Cond.steady])) hini)
  obtain ⟨hx, hb, hml, ho, -⟩ := S
  intro T hT X
  rcases vx_callSX X hx (hh := hh) (bytes := bytes) (maxL := maxL) (ret := ret) ho hl hstt hini hcode hy hK hg (hsize.trans hml.symm) (argsL := As) (rest := rest) (fun sig h => hn.trans (hlen sig h)) hstack hW (by rw [hb]; exact hdg)
    (fun vm₁ hW₁ => ⟨hf.1, hf.2, hp.2 (T.setVm vm₁) hT hW₁⟩) with ⟨v, vm₁, ⟨U', l2, c2, s2⟩, hW₁, X', ⟨g', mk, t, L, e1, e2, hq, h1, hL, h2, h3⟩, st⟩ | ⟨q, vm₁, ⟨U', l2, c2, s2⟩, hW₁, X', ⟨g', mk, t, L, E, ce, e1, e2, hq, hce, hcv, hcl, h1, hL, h2, h3⟩, st⟩
  · dsimp only [Pt.U, Pt.locs, Pt.cells, Pt.slots] at X' e1 e2 h1 h2 h3 st
    subst h1; subst h2; subst h3
    exact Or.inl ⟨v, (T.setVm vm₁).calling g' mk As.toArray, t, U', L, hT, X', hL, e1, e2, hq, st⟩
  · dsimp only [Pt.U, Pt.locs, Pt.cells, Pt.slots] at X' e1 e2 h1 h2 h3 st hcl
    subst h1; subst h2; subst h3
    exact Or.inr ⟨q, (T.setVm vm₁).calling g' mk As.toArray, t, U', L, E, ce, hT, X', hL, e1, e2, hq, hce, hcv, vx_cls hW₁ hcl, st⟩
end
end VXH
theorem vx_ofWH {l : Launch} {y : MethodName} {ws ws' : List Cond} {rm : Room} {Pc : Array Value → State → Prop} {Qc : Array Value → State → Outcome → State → Prop} {XC : String → State → State → Prop} {mc ms : Nat} {free : Addr → Prop} {cc : ByteArray} {maxL : Nat} {ret : Option FieldType} {hh : List (Nat × Nat × Nat × Nat)}
    (hy : plainName y.cls = true) (hw : ws = Cond.codeWith y cc maxL ret hh :: ws')
    (body : ∀ p e s m args below meth c s₁, BodyLoose p l y (headSpec ws rm) cc maxL ret e s m args below meth c s₁ → c.maxLocals = maxL → Pc args s →
      W p l e (headSpec ws rm).room s m args below meth c s.heap [] 0 0 (vx_MQ below Qc XC args s mc ms free) (entryFrame m args maxL)) : vx_Met l y ws rm Pc Qc XC mc ms free := by
  refine MetFree.of_bodyS (code := cc) (maxLocals := maxL) (ret := ret) hy ?_ ?_
  · intro args s m h hn
    obtain ⟨m9, meth, c, hn9, h1, h2, h3, h4, -, h5, h6, -⟩ := Cond.codeWith_spec (atoms_spec (ws := ws) h _ (by rw [hw]; exact List.mem_cons_self))
    cases hn.symm.trans hn9
    exact ⟨meth, c, h1, h2, h3, h4, h5, h6⟩
  · intro p e s m args below meth c s₁ B hml hP _
    have hh0 : s₁.heap = s.heap := by rw [B.state]; rfl
    obtain ⟨t, a1, o, b1, b2, b3⟩ := body p e s m args below meth c s₁ B hml hP s₁ hh0 (Stand.of_body B)
    exact ⟨t, o, a1, b1, b2, b3⟩
/-! ===== END ===== -/

/-! ===== BEGIN printed: names, fields, word lists, decode rows ===== -/
def RX0 : String := "QuarterWalks$Book"
def TX0 : u_T := fun k => match k with
  | 0 => ("QuarterWalks$Book", "past", "I", false)
  | 1 => ("QuarterWalks$Book", "now", "LQuarterWalks$Shelf;", true)
  | 2 => ("QuarterWalks$Book", "kept", "LQuarterWalks$Shelf;", true)
  | 3 => ("QuarterWalks$Book", "before", "[LQuarterWalks$Shelf;", true)
  | 4 => ("QuarterWalks$Book", "isKept", "Z", false)
  | _ => ("QuarterWalks$Book", "next", "I", false)
def tyX0 : Nat → FieldType := fun k => match k with
  | 0 => .int
  | 1 => .object "QuarterWalks$Shelf"
  | 2 => .object "QuarterWalks$Shelf"
  | 3 => .array (.object "QuarterWalks$Shelf")
  | 4 => .boolean
  | _ => .int
abbrev wsX00 : List Cond := u_ws RX0 TX0 6
theorem nmX0 : ∀ a, a < 6 → ∀ b, b < 6 → a ≠ b → (TX0 a).2.1 ≠ (TX0 b).2.1 := by decide +kernel
theorem tyX0_ok : ∀ k, k < 6 → parseFieldDescriptor (TX0 k).2.2.1 = some (tyX0 k) := by decide +kernel
abbrev cX0_init : ByteArray := prog_2_method_1_code
def yX0_init : MethodName := ⟨RX0, "<init>", "()V"⟩
abbrev cX0_size : ByteArray := prog_2_method_2_code
def yX0_size : MethodName := ⟨RX0, "size", "()I"⟩
abbrev cX0_isFull : ByteArray := prog_2_method_3_code
def yX0_isFull : MethodName := ⟨RX0, "isFull", "()Z"⟩
abbrev cX0_find : ByteArray := prog_2_method_4_code
def yX0_find : MethodName := ⟨RX0, "find", "(I)LQuarterWalks$StepSet;"⟩
abbrev cX0_add : ByteArray := prog_2_method_5_code
def yX0_add : MethodName := ⟨RX0, "add", "(LQuarterWalks$StepSet;)I"⟩
abbrev cX0_replace : ByteArray := prog_2_method_6_code
def yX0_replace : MethodName := ⟨RX0, "replace", "(ILQuarterWalks$StepSet;)V"⟩
abbrev cX0_remove : ByteArray := prog_2_method_7_code
def yX0_remove : MethodName := ⟨RX0, "remove", "(I)I"⟩
abbrev cX0_remember : ByteArray := prog_2_method_8_code
def yX0_remember : MethodName := ⟨RX0, "remember", "()V"⟩
abbrev cX0_takeBack : ByteArray := prog_2_method_9_code
def yX0_takeBack : MethodName := ⟨RX0, "takeBack", "()I"⟩
abbrev cX0_keep : ByteArray := prog_2_method_10_code
def yX0_keep : MethodName := ⟨RX0, "keep", "()I"⟩
abbrev cX0_restore : ByteArray := prog_2_method_11_code
def yX0_restore : MethodName := ⟨RX0, "restore", "()I"⟩
def RX1 : String := "QuarterWalks$Box"
def TX1 : u_T := fun k => match k with
  | 0 => ("QuarterWalks$Box", "left", "I", false)
  | 1 => ("QuarterWalks$Box", "bottom", "I", false)
  | 2 => ("QuarterWalks$Box", "right", "I", false)
  | _ => ("QuarterWalks$Box", "top", "I", false)
def tyX1 : Nat → FieldType := fun k => match k with
  | 0 => .int
  | 1 => .int
  | 2 => .int
  | _ => .int
abbrev wsX10 : List Cond := u_ws RX1 TX1 4
theorem nmX1 : ∀ a, a < 4 → ∀ b, b < 4 → a ≠ b → (TX1 a).2.1 ≠ (TX1 b).2.1 := by decide +kernel
theorem tyX1_ok : ∀ k, k < 4 → parseFieldDescriptor (TX1 k).2.2.1 = some (tyX1 k) := by decide +kernel
abbrev cX1_init : ByteArray := prog_3_method_1_code
def yX1_init : MethodName := ⟨RX1, "<init>", "()V"⟩
abbrev cX1_holds : ByteArray := prog_3_method_2_code
def yX1_holds : MethodName := ⟨RX1, "holds", "(II)Z"⟩
def RX2 : String := "QuarterWalks$Grid"
def TX2 : u_T := fun k => match k with
  | 0 => ("QuarterWalks$Grid", "now", "[J", false)
  | 1 => ("QuarterWalks$Grid", "next", "[J", false)
  | 2 => ("QuarterWalks$Grid", "room", "LQuarterWalks$Box;", true)
  | 3 => ("QuarterWalks$Grid", "reach", "LQuarterWalks$Box;", true)
  | 4 => ("QuarterWalks$Grid", "shifts", "[I", true)
  | 5 => ("QuarterWalks$Grid", "worths", "[J", true)
  | 6 => ("QuarterWalks$Grid", "used", "I", false)
  | 7 => ("QuarterWalks$Grid", "bits", "I", false)
  | 8 => ("QuarterWalks$Grid", "mode", "I", false)
  | 9 => ("QuarterWalks$Grid", "startX", "I", false)
  | _ => ("QuarterWalks$Grid", "startY", "I", false)
def tyX2 : Nat → FieldType := fun k => match k with
  | 0 => .array .long
  | 1 => .array .long
  | 2 => .object "QuarterWalks$Box"
  | 3 => .object "QuarterWalks$Box"
  | 4 => .array .int
  | 5 => .array .long
  | 6 => .int
  | 7 => .int
  | 8 => .int
  | 9 => .int
  | _ => .int
abbrev wsX20 : List Cond := u_ws RX2 TX2 11
theorem nmX2 : ∀ a, a < 11 → ∀ b, b < 11 → a ≠ b → (TX2 a).2.1 ≠ (TX2 b).2.1 := by decide +kernel
theorem tyX2_ok : ∀ k, k < 11 → parseFieldDescriptor (TX2 k).2.2.1 = some (tyX2 k) := by decide +kernel
abbrev cX2_init : ByteArray := prog_4_method_1_code
def yX2_init : MethodName := ⟨RX2, "<init>", "()V"⟩
abbrev cX2_go : ByteArray := prog_4_method_2_code
def yX2_go : MethodName := ⟨RX2, "go", "(LQuarterWalks$StepSet;III)V"⟩
abbrev cX2_open : ByteArray := prog_4_method_3_code
def yX2_open : MethodName := ⟨RX2, "open", "(LQuarterWalks$StepSet;II)V"⟩
abbrev cX2_close : ByteArray := prog_4_method_4_code
def yX2_close : MethodName := ⟨RX2, "close", "(II)V"⟩
abbrev cX2_takeSteps : ByteArray := prog_4_method_5_code
def yX2_takeSteps : MethodName := ⟨RX2, "takeSteps", "(LQuarterWalks$StepSet;)V"⟩
abbrev cX2_wipe : ByteArray := prog_4_method_6_code
def yX2_wipe : MethodName := ⟨RX2, "wipe", "()V"⟩
abbrev cX2_cell : ByteArray := prog_4_method_7_code
def yX2_cell : MethodName := ⟨RX2, "cell", "(II)I"⟩
abbrev cX2_advance : ByteArray := prog_4_method_8_code
def yX2_advance : MethodName := ⟨RX2, "advance", "(I)V"⟩
abbrev cX2_widen : ByteArray := prog_4_method_9_code
def yX2_widen : MethodName := ⟨RX2, "widen", "()V"⟩
abbrev cX2_gather : ByteArray := prog_4_method_10_code
def yX2_gather : MethodName := ⟨RX2, "gather", "()V"⟩
abbrev cX2_settled : ByteArray := prog_4_method_11_code
def yX2_settled : MethodName := ⟨RX2, "settled", "(J)J"⟩
abbrev cX2_seen : ByteArray := prog_4_method_12_code
def yX2_seen : MethodName := ⟨RX2, "seen", "(II)J"⟩
abbrev cX2_total : ByteArray := prog_4_method_13_code
def yX2_total : MethodName := ⟨RX2, "total", "()I"⟩
abbrev cX2_tabulated : ByteArray := prog_4_method_14_code
def yX2_tabulated : MethodName := ⟨RX2, "tabulated", "(LQuarterWalks$StepSet;)[I"⟩
abbrev cX2_alongLine : ByteArray := prog_4_method_15_code
def yX2_alongLine : MethodName := ⟨RX2, "alongLine", "(II)I"⟩
abbrev cX2_leaving : ByteArray := prog_4_method_16_code
def yX2_leaving : MethodName := ⟨RX2, "leaving", "(LQuarterWalks$StepSet;)I"⟩
abbrev cX2_weightOut : ByteArray := prog_4_method_17_code
def yX2_weightOut : MethodName := ⟨RX2, "weightOut", "(LQuarterWalks$StepSet;II)I"⟩
abbrev cX2_valueAt : ByteArray := prog_4_method_18_code
def yX2_valueAt : MethodName := ⟨RX2, "valueAt", "(II)I"⟩
abbrev cX2_highest : ByteArray := prog_4_method_19_code
def yX2_highest : MethodName := ⟨RX2, "highest", "(I)I"⟩
abbrev cX2_filledCells : ByteArray := prog_4_method_20_code
def yX2_filledCells : MethodName := ⟨RX2, "filledCells", "()I"⟩
abbrev cX2_staying : ByteArray := prog_4_method_21_code
def yX2_staying : MethodName := ⟨RX2, "staying", "()I"⟩
abbrev cX2_stepsInside : ByteArray := prog_4_method_22_code
def yX2_stepsInside : MethodName := ⟨RX2, "stepsInside", "(II)I"⟩
abbrev cX2_copyQuarter : ByteArray := prog_4_method_23_code
def yX2_copyQuarter : MethodName := ⟨RX2, "copyQuarter", "([J)V"⟩
abbrev cX2_matched : ByteArray := prog_4_method_24_code
def yX2_matched : MethodName := ⟨RX2, "matched", "([J)I"⟩
def RX3 : String := "QuarterWalks$Guess"
def TX3 : u_T := fun k => match k with
  | 0 => ("QuarterWalks$Guess", "matrix", "LQuarterWalks$Matrix;", true)
  | 1 => ("QuarterWalks$Guess", "powers", "[[I", true)
  | 2 => ("QuarterWalks$Guess", "found", "[I", true)
  | _ => ("QuarterWalks$Guess", "which", "I", false)
def tyX3 : Nat → FieldType := fun k => match k with
  | 0 => .object "QuarterWalks$Matrix"
  | 1 => .array (.array .int)
  | 2 => .array .int
  | _ => .int
abbrev wsX30 : List Cond := u_ws RX3 TX3 4
theorem nmX3 : ∀ a, a < 4 → ∀ b, b < 4 → a ≠ b → (TX3 a).2.1 ≠ (TX3 b).2.1 := by decide +kernel
theorem tyX3_ok : ∀ k, k < 4 → parseFieldDescriptor (TX3 k).2.2.1 = some (tyX3 k) := by decide +kernel
abbrev cX3_init : ByteArray := prog_5_method_1_code
def yX3_init : MethodName := ⟨RX3, "<init>", "(LQuarterWalks$Matrix;)V"⟩
abbrev cX3_isShape : ByteArray := prog_5_method_2_code
def yX3_isShape : MethodName := ⟨RX3, "isShape", "(III)Z"⟩
abbrev cX3_load : ByteArray := prog_5_method_3_code
def yX3_load : MethodName := ⟨RX3, "load", "([III)V"⟩
abbrev cX3_multiply : ByteArray := prog_5_method_4_code
def yX3_multiply : MethodName := ⟨RX3, "multiply", "([I[I[I)V"⟩
abbrev cX3_coefficient : ByteArray := prog_5_method_5_code
def yX3_coefficient : MethodName := ⟨RX3, "coefficient", "(IIII)I"⟩
abbrev cX3_failing : ByteArray := prog_5_method_6_code
def yX3_failing : MethodName := ⟨RX3, "failing", "(II)I"⟩
abbrev cX3_solve : ByteArray := prog_5_method_7_code
def yX3_solve : MethodName := ⟨RX3, "solve", "(II)Z"⟩
abbrev cX3_factor : ByteArray := prog_5_method_8_code
def yX3_factor : MethodName := ⟨RX3, "factor", "(III)I"⟩
abbrev cX3_firstMiss : ByteArray := prog_5_method_9_code
def yX3_firstMiss : MethodName := ⟨RX3, "firstMiss", "(II)I"⟩
abbrev cX3_smallest : ByteArray := prog_5_method_10_code
def yX3_smallest : MethodName := ⟨RX3, "smallest", "()I"⟩
def RX4 : String := "QuarterWalks$Matrix"
def TX4 : u_T := fun k => match k with
  | 0 => ("QuarterWalks$Matrix", "cells", "[[J", true)
  | 1 => ("QuarterWalks$Matrix", "rows", "I", false)
  | 2 => ("QuarterWalks$Matrix", "columns", "I", false)
  | _ => ("QuarterWalks$Matrix", "product", "I", false)
def tyX4 : Nat → FieldType := fun k => match k with
  | 0 => .array (.array .long)
  | 1 => .int
  | 2 => .int
  | _ => .int
abbrev wsX40 : List Cond := u_ws RX4 TX4 4
theorem nmX4 : ∀ a, a < 4 → ∀ b, b < 4 → a ≠ b → (TX4 a).2.1 ≠ (TX4 b).2.1 := by decide +kernel
theorem tyX4_ok : ∀ k, k < 4 → parseFieldDescriptor (TX4 k).2.2.1 = some (tyX4 k) := by decide +kernel
abbrev cX4_init : ByteArray := prog_6_method_1_code
def yX4_init : MethodName := ⟨RX4, "<init>", "()V"⟩
abbrev cX4_shape : ByteArray := prog_6_method_2_code
def yX4_shape : MethodName := ⟨RX4, "shape", "(II)V"⟩
abbrev cX4_put : ByteArray := prog_6_method_3_code
def yX4_put : MethodName := ⟨RX4, "put", "(IIJ)V"⟩
abbrev cX4_pivots : ByteArray := prog_6_method_4_code
def yX4_pivots : MethodName := ⟨RX4, "pivots", "()I"⟩
abbrev cX4_determinant : ByteArray := prog_6_method_5_code
def yX4_determinant : MethodName := ⟨RX4, "determinant", "()I"⟩
abbrev cX4_firstMadeUp : ByteArray := prog_6_method_6_code
def yX4_firstMadeUp : MethodName := ⟨RX4, "firstMadeUp", "()I"⟩
abbrev cX4_share : ByteArray := prog_6_method_7_code
def yX4_share : MethodName := ⟨RX4, "share", "(II)I"⟩
abbrev cX4_clearsBy : ByteArray := prog_6_method_8_code
def yX4_clearsBy : MethodName := ⟨RX4, "clearsBy", "(II)Z"⟩
abbrev cX4_clear : ByteArray := prog_6_method_9_code
def yX4_clear : MethodName := ⟨RX4, "clear", "([J[JI)V"⟩
def RX5 : String := "QuarterWalks$Shelf"
def TX5 : u_T := fun k => match k with
  | 0 => ("QuarterWalks$Shelf", "sets", "[LQuarterWalks$StepSet;", true)
  | _ => ("QuarterWalks$Shelf", "size", "I", false)
def tyX5 : Nat → FieldType := fun k => match k with
  | 0 => .array (.object "QuarterWalks$StepSet")
  | _ => .int
abbrev wsX50 : List Cond := u_ws RX5 TX5 2
theorem nmX5 : ∀ a, a < 2 → ∀ b, b < 2 → a ≠ b → (TX5 a).2.1 ≠ (TX5 b).2.1 := by decide +kernel
theorem tyX5_ok : ∀ k, k < 2 → parseFieldDescriptor (TX5 k).2.2.1 = some (tyX5 k) := by decide +kernel
abbrev cX5_init : ByteArray := prog_7_method_1_code
def yX5_init : MethodName := ⟨RX5, "<init>", "()V"⟩
abbrev cX5_copy : ByteArray := prog_7_method_2_code
def yX5_copy : MethodName := ⟨RX5, "copy", "(LQuarterWalks$Shelf;)V"⟩
def RX6 : String := "QuarterWalks$StepSet"
def TX6 : u_T := fun k => match k with
  | 0 => ("QuarterWalks$StepSet", "weights", "[I", true)
  | 1 => ("QuarterWalks$StepSet", "startX", "I", true)
  | 2 => ("QuarterWalks$StepSet", "startY", "I", true)
  | _ => ("QuarterWalks$StepSet", "terms", "[I", false)
def tyX6 : Nat → FieldType := fun k => match k with
  | 0 => .array .int
  | 1 => .int
  | 2 => .int
  | _ => .array .int
abbrev wsX60 : List Cond := u_ws RX6 TX6 4
theorem nmX6 : ∀ a, a < 4 → ∀ b, b < 4 → a ≠ b → (TX6 a).2.1 ≠ (TX6 b).2.1 := by decide +kernel
theorem tyX6_ok : ∀ k, k < 4 → parseFieldDescriptor (TX6 k).2.2.1 = some (tyX6 k) := by decide +kernel
abbrev cX6_init : ByteArray := prog_8_method_1_code
def yX6_init : MethodName := ⟨RX6, "<init>", "([III)V"⟩
abbrev cX6_weightTotal : ByteArray := prog_8_method_2_code
def yX6_weightTotal : MethodName := ⟨RX6, "weightTotal", "()I"⟩
abbrev cX6_bits : ByteArray := prog_8_method_3_code
def yX6_bits : MethodName := ⟨RX6, "bits", "()I"⟩
abbrev cX6_drift : ByteArray := prog_8_method_4_code
def yX6_drift : MethodName := ⟨RX6, "drift", "([I)I"⟩
abbrev cX6_isSameBy : ByteArray := prog_8_method_5_code
def yX6_isSameBy : MethodName := ⟨RX6, "isSameBy", "([I)Z"⟩
abbrev cX6_isSameAs : ByteArray := prog_8_method_6_code
def yX6_isSameAs : MethodName := ⟨RX6, "isSameAs", "(LQuarterWalks$StepSet;)Z"⟩
abbrev cX6_writeTo : ByteArray := prog_8_method_7_code
def yX6_writeTo : MethodName := ⟨RX6, "writeTo", "(Ljava/lang/StringBuilder;)V"⟩
abbrev cX6_writeStep : ByteArray := prog_8_method_8_code
def yX6_writeStep : MethodName := ⟨RX6, "writeStep", "(Ljava/lang/StringBuilder;I)V"⟩
def RX7 : String := "QuarterWalks$Tape"
def TX7 : u_T := fun k => match k with
  | 0 => ("QuarterWalks$Tape", "length", "I", false)
  | 1 => ("QuarterWalks$Tape", "bytes", "[I", true)
  | 2 => ("QuarterWalks$Tape", "weights", "[I", true)
  | 3 => ("QuarterWalks$Tape", "startX", "I", false)
  | 4 => ("QuarterWalks$Tape", "startY", "I", false)
  | 5 => ("QuarterWalks$Tape", "behind", "I", false)
  | _ => ("QuarterWalks$Tape", "lastStep", "I", false)
def tyX7 : Nat → FieldType := fun k => match k with
  | 0 => .int
  | 1 => .array .int
  | 2 => .array .int
  | 3 => .int
  | 4 => .int
  | 5 => .int
  | _ => .int
abbrev wsX70 : List Cond := u_ws RX7 TX7 7
theorem nmX7 : ∀ a, a < 7 → ∀ b, b < 7 → a ≠ b → (TX7 a).2.1 ≠ (TX7 b).2.1 := by decide +kernel
theorem tyX7_ok : ∀ k, k < 7 → parseFieldDescriptor (TX7 k).2.2.1 = some (tyX7 k) := by decide +kernel
abbrev cX7_init : ByteArray := prog_9_method_1_code
def yX7_init : MethodName := ⟨RX7, "<init>", "()V"⟩
abbrev cX7_filled : ByteArray := prog_9_method_2_code
def yX7_filled : MethodName := ⟨RX7, "filled", "(I)I"⟩
abbrev cX7_append : ByteArray := prog_9_method_3_code
def yX7_append : MethodName := ⟨RX7, "append", "(I)V"⟩
abbrev cX7_told : ByteArray := prog_9_method_4_code
def yX7_told : MethodName := ⟨RX7, "told", "()LQuarterWalks$StepSet;"⟩
abbrev cX7_read : ByteArray := prog_9_method_5_code
def yX7_read : MethodName := ⟨RX7, "read", "()I"⟩
abbrev cX7_partEnd : ByteArray := prog_9_method_6_code
def yX7_partEnd : MethodName := ⟨RX7, "partEnd", "(I)I"⟩
abbrev cX7_isLetter : ByteArray := prog_9_method_7_code
def yX7_isLetter : MethodName := ⟨RX7, "isLetter", "(I)Z"⟩
abbrev cX7_isDigit : ByteArray := prog_9_method_8_code
def yX7_isDigit : MethodName := ⟨RX7, "isDigit", "(I)Z"⟩
abbrev cX7_takes : ByteArray := prog_9_method_9_code
def yX7_takes : MethodName := ⟨RX7, "takes", "(II)Z"⟩
abbrev cX7_takesFrom : ByteArray := prog_9_method_10_code
def yX7_takesFrom : MethodName := ⟨RX7, "takesFrom", "(II)Z"⟩
abbrev cX7_takesStep : ByteArray := prog_9_method_11_code
def yX7_takesStep : MethodName := ⟨RX7, "takesStep", "(II)Z"⟩
abbrev cX7_stepNamed : ByteArray := prog_9_method_12_code
def yX7_stepNamed : MethodName := ⟨RX7, "stepNamed", "(II)I"⟩
abbrev cX7_takesNumber : ByteArray := prog_9_method_13_code
def yX7_takesNumber : MethodName := ⟨RX7, "takesNumber", "(I)Z"⟩
def RX8 : String := "QuarterWalks$Turns"
def TX8 : u_T := fun k => match k with
  | 0 => ("QuarterWalks$Turns", "xs", "[I", true)
  | _ => ("QuarterWalks$Turns", "ys", "[I", true)
def tyX8 : Nat → FieldType := fun k => match k with
  | 0 => .array .int
  | _ => .array .int
abbrev wsX80 : List Cond := u_ws RX8 TX8 2
theorem nmX8 : ∀ a, a < 2 → ∀ b, b < 2 → a ≠ b → (TX8 a).2.1 ≠ (TX8 b).2.1 := by decide +kernel
theorem tyX8_ok : ∀ k, k < 2 → parseFieldDescriptor (TX8 k).2.2.1 = some (tyX8 k) := by decide +kernel
abbrev cX8_init : ByteArray := prog_10_method_1_code
def yX8_init : MethodName := ⟨RX8, "<init>", "()V"⟩
abbrev cX8_kernelAt : ByteArray := prog_10_method_2_code
def yX8_kernelAt : MethodName := ⟨RX8, "kernelAt", "(LQuarterWalks$StepSet;II)I"⟩
abbrev cX8_mixed : ByteArray := prog_10_method_3_code
def yX8_mixed : MethodName := ⟨RX8, "mixed", "(IIII)I"⟩
abbrev cX8_newX : ByteArray := prog_10_method_4_code
def yX8_newX : MethodName := ⟨RX8, "newX", "(LQuarterWalks$StepSet;II)I"⟩
abbrev cX8_newY : ByteArray := prog_10_method_5_code
def yX8_newY : MethodName := ⟨RX8, "newY", "(LQuarterWalks$StepSet;II)I"⟩
abbrev cX8_quotient : ByteArray := prog_10_method_6_code
def yX8_quotient : MethodName := ⟨RX8, "quotient", "(III)I"⟩
abbrev cX8_follow : ByteArray := prog_10_method_7_code
def yX8_follow : MethodName := ⟨RX8, "follow", "(LQuarterWalks$StepSet;II)I"⟩
abbrev cX8_greatest : ByteArray := prog_10_method_8_code
def yX8_greatest : MethodName := ⟨RX8, "greatest", "(LQuarterWalks$StepSet;)I"⟩
abbrev cX8_alternating : ByteArray := prog_10_method_9_code
def yX8_alternating : MethodName := ⟨RX8, "alternating", "(I)I"⟩
def RX9 : String := "QuarterWalks$Ways"
def TX9 : u_T := fun k => match k with
  | 0 => ("QuarterWalks$Ways", "onward", "[[I", true)
  | 1 => ("QuarterWalks$Ways", "steps", "I", false)
  | 2 => ("QuarterWalks$Ways", "startX", "I", false)
  | _ => ("QuarterWalks$Ways", "startY", "I", false)
def tyX9 : Nat → FieldType := fun k => match k with
  | 0 => .array (.array .int)
  | 1 => .int
  | 2 => .int
  | _ => .int
abbrev wsX90 : List Cond := u_ws RX9 TX9 4
theorem nmX9 : ∀ a, a < 4 → ∀ b, b < 4 → a ≠ b → (TX9 a).2.1 ≠ (TX9 b).2.1 := by decide +kernel
theorem tyX9_ok : ∀ k, k < 4 → parseFieldDescriptor (TX9 k).2.2.1 = some (tyX9 k) := by decide +kernel
abbrev cX9_init : ByteArray := prog_11_method_1_code
def yX9_init : MethodName := ⟨RX9, "<init>", "()V"⟩
abbrev cX9_lead : ByteArray := prog_11_method_2_code
def yX9_lead : MethodName := ⟨RX9, "lead", "(LQuarterWalks$StepSet;III)I"⟩
abbrev cX9_waysOn : ByteArray := prog_11_method_3_code
def yX9_waysOn : MethodName := ⟨RX9, "waysOn", "(LQuarterWalks$StepSet;III)I"⟩
abbrev cX9_cell : ByteArray := prog_11_method_4_code
def yX9_cell : MethodName := ⟨RX9, "cell", "(II)I"⟩
abbrev cX9_ways : ByteArray := prog_11_method_5_code
def yX9_ways : MethodName := ⟨RX9, "ways", "(III)I"⟩
abbrev cX9_follow : ByteArray := prog_11_method_6_code
def yX9_follow : MethodName := ⟨RX9, "follow", "(LQuarterWalks$StepSet;II)I"⟩
def RX10 : String := "QuarterWalks"
def TX10 : u_T := fun k => match k with
  | 0 => ("QuarterWalks", "tape", "LQuarterWalks$Tape;", true)
  | 1 => ("QuarterWalks", "book", "LQuarterWalks$Book;", true)
  | 2 => ("QuarterWalks", "grid", "LQuarterWalks$Grid;", true)
  | 3 => ("QuarterWalks", "ways", "LQuarterWalks$Ways;", true)
  | 4 => ("QuarterWalks", "turns", "LQuarterWalks$Turns;", true)
  | 5 => ("QuarterWalks", "matrix", "LQuarterWalks$Matrix;", true)
  | 6 => ("QuarterWalks", "guess", "LQuarterWalks$Guess;", true)
  | 7 => ("QuarterWalks", "refused", "[I", true)
  | 8 => ("QuarterWalks", "scratch", "[J", true)
  | _ => ("QuarterWalks", "script", "Ljava/lang/StringBuilder;", true)
def tyX10 : Nat → FieldType := fun k => match k with
  | 0 => .object "QuarterWalks$Tape"
  | 1 => .object "QuarterWalks$Book"
  | 2 => .object "QuarterWalks$Grid"
  | 3 => .object "QuarterWalks$Ways"
  | 4 => .object "QuarterWalks$Turns"
  | 5 => .object "QuarterWalks$Matrix"
  | 6 => .object "QuarterWalks$Guess"
  | 7 => .array .int
  | 8 => .array .long
  | _ => .object "java/lang/StringBuilder"
abbrev wsX100 : List Cond := u_ws RX10 TX10 10
theorem nmX10 : ∀ a, a < 10 → ∀ b, b < 10 → a ≠ b → (TX10 a).2.1 ≠ (TX10 b).2.1 := by decide +kernel
theorem tyX10_ok : ∀ k, k < 10 → parseFieldDescriptor (TX10 k).2.2.1 = some (tyX10 k) := by decide +kernel
abbrev cX10_init : ByteArray := prog_1_method_1_code
def yX10_init : MethodName := ⟨RX10, "<init>", "()V"⟩
abbrev cX10_feed : ByteArray := prog_1_method_2_code
def yX10_feed : MethodName := ⟨RX10, "feed", "(IIIII)I"⟩
abbrev cX10_end : ByteArray := prog_1_method_3_code
def yX10_end : MethodName := ⟨RX10, "end", "(I)Z"⟩
abbrev cX10_fault : ByteArray := prog_1_method_4_code
def yX10_fault : MethodName := ⟨RX10, "fault", "()I"⟩
abbrev cX10_tell : ByteArray := prog_1_method_5_code
def yX10_tell : MethodName := ⟨RX10, "tell", "()I"⟩
abbrev cX10_drop : ByteArray := prog_1_method_6_code
def yX10_drop : MethodName := ⟨RX10, "drop", "(I)I"⟩
abbrev cX10_mirror : ByteArray := prog_1_method_7_code
def yX10_mirror : MethodName := ⟨RX10, "mirror", "(I)I"⟩
abbrev cX10_turn : ByteArray := prog_1_method_8_code
def yX10_turn : MethodName := ⟨RX10, "turn", "(I)I"⟩
abbrev cX10_join : ByteArray := prog_1_method_9_code
def yX10_join : MethodName := ⟨RX10, "join", "(II)I"⟩
abbrev cX10_scale : ByteArray := prog_1_method_10_code
def yX10_scale : MethodName := ⟨RX10, "scale", "(II)I"⟩
abbrev cX10_weigh : ByteArray := prog_1_method_11_code
def yX10_weigh : MethodName := ⟨RX10, "weigh", "(III)I"⟩
abbrev cX10_start : ByteArray := prog_1_method_12_code
def yX10_start : MethodName := ⟨RX10, "start", "(III)I"⟩
abbrev cX10_rule : ByteArray := prog_1_method_13_code
def yX10_rule : MethodName := ⟨RX10, "rule", "(II)I"⟩
abbrev cX10_at : ByteArray := prog_1_method_14_code
def yX10_at : MethodName := ⟨RX10, "at", "(IIIII)I"⟩
abbrev cX10_series : ByteArray := prog_1_method_15_code
def yX10_series : MethodName := ⟨RX10, "series", "(III)I"⟩
abbrev cX10_exact : ByteArray := prog_1_method_16_code
def yX10_exact : MethodName := ⟨RX10, "exact", "(IIII)J"⟩
abbrev cX10_bridge : ByteArray := prog_1_method_17_code
def yX10_bridge : MethodName := ⟨RX10, "bridge", "(IIII)I"⟩
abbrev cX10_reflected : ByteArray := prog_1_method_18_code
def yX10_reflected : MethodName := ⟨RX10, "reflected", "(IIII)I"⟩
abbrev cX10_rank : ByteArray := prog_1_method_19_code
def yX10_rank : MethodName := ⟨RX10, "rank", "(II)I"⟩
abbrev cX10_ratio : ByteArray := prog_1_method_20_code
def yX10_ratio : MethodName := ⟨RX10, "ratio", "(III)I"⟩
abbrev cX10_hankel : ByteArray := prog_1_method_21_code
def yX10_hankel : MethodName := ⟨RX10, "hankel", "(III)I"⟩
abbrev cX10_convolved : ByteArray := prog_1_method_22_code
def yX10_convolved : MethodName := ⟨RX10, "convolved", "(IIIII)I"⟩
abbrev cX10_out : ByteArray := prog_1_method_23_code
def yX10_out : MethodName := ⟨RX10, "out", "(II)I"⟩
abbrev cX10_arches : ByteArray := prog_1_method_24_code
def yX10_arches : MethodName := ⟨RX10, "arches", "(II)I"⟩
abbrev cX10_value : ByteArray := prog_1_method_25_code
def yX10_value : MethodName := ⟨RX10, "value", "(IIII)I"⟩
abbrev cX10_walk : ByteArray := prog_1_method_26_code
def yX10_walk : MethodName := ⟨RX10, "walk", "(IIIIII)I"⟩
abbrev cX10_drawn : ByteArray := prog_1_method_27_code
def yX10_drawn : MethodName := ⟨RX10, "drawn", "(IIIIJI)I"⟩
abbrev cX10_peak : ByteArray := prog_1_method_28_code
def yX10_peak : MethodName := ⟨RX10, "peak", "(III)I"⟩
abbrev cX10_points : ByteArray := prog_1_method_29_code
def yX10_points : MethodName := ⟨RX10, "points", "(II)I"⟩
abbrev cX10_fewest : ByteArray := prog_1_method_30_code
def yX10_fewest : MethodName := ⟨RX10, "fewest", "(III)I"⟩
abbrev cX10_period : ByteArray := prog_1_method_31_code
def yX10_period : MethodName := ⟨RX10, "period", "(I)I"⟩
abbrev cX10_meet : ByteArray := prog_1_method_32_code
def yX10_meet : MethodName := ⟨RX10, "meet", "(III)I"⟩
abbrev cX10_kernel : ByteArray := prog_1_method_33_code
def yX10_kernel : MethodName := ⟨RX10, "kernel", "(III)I"⟩
abbrev cX10_turned : ByteArray := prog_1_method_34_code
def yX10_turned : MethodName := ⟨RX10, "turned", "(IIII)I"⟩
abbrev cX10_orbit : ByteArray := prog_1_method_35_code
def yX10_orbit : MethodName := ⟨RX10, "orbit", "(IIIII)I"⟩
abbrev cX10_group : ByteArray := prog_1_method_36_code
def yX10_group : MethodName := ⟨RX10, "group", "(I)I"⟩
abbrev cX10_sum : ByteArray := prog_1_method_37_code
def yX10_sum : MethodName := ⟨RX10, "sum", "(III)I"⟩
abbrev cX10_noUse : ByteArray := prog_1_method_38_code
def yX10_noUse : MethodName := ⟨RX10, "noUse", "(I)I"⟩
abbrev cX10_enough : ByteArray := prog_1_method_39_code
def yX10_enough : MethodName := ⟨RX10, "enough", "(I)I"⟩
abbrev cX10_alike : ByteArray := prog_1_method_40_code
def yX10_alike : MethodName := ⟨RX10, "alike", "(I)I"⟩
abbrev cX10_recurrence : ByteArray := prog_1_method_41_code
def yX10_recurrence : MethodName := ⟨RX10, "recurrence", "(IIIIII)I"⟩
abbrev cX10_fails : ByteArray := prog_1_method_42_code
def yX10_fails : MethodName := ⟨RX10, "fails", "(IIII)I"⟩
abbrev cX10_equation : ByteArray := prog_1_method_43_code
def yX10_equation : MethodName := ⟨RX10, "equation", "(IIIIII)I"⟩
abbrev cX10_breaks : ByteArray := prog_1_method_44_code
def yX10_breaks : MethodName := ⟨RX10, "breaks", "(IIII)I"⟩
abbrev cX10_least : ByteArray := prog_1_method_45_code
def yX10_least : MethodName := ⟨RX10, "least", "(III)I"⟩
abbrev cX10_written : ByteArray := prog_1_method_46_code
def yX10_written : MethodName := ⟨RX10, "written", "(II)I"⟩
abbrev cX10_undo : ByteArray := prog_1_method_47_code
def yX10_undo : MethodName := ⟨RX10, "undo", "()I"⟩
abbrev cX10_image : ByteArray := prog_1_method_48_code
def yX10_image : MethodName := ⟨RX10, "image", "()I"⟩
abbrev cX10_back : ByteArray := prog_1_method_49_code
def yX10_back : MethodName := ⟨RX10, "back", "()I"⟩
abbrev cX10_status : ByteArray := prog_1_method_50_code
def yX10_status : MethodName := ⟨RX10, "status", "(I)I"⟩
abbrev cX10_most : ByteArray := prog_1_method_51_code
def yX10_most : MethodName := ⟨RX10, "most", "(I)I"⟩
abbrev cX10_count : ByteArray := prog_1_method_52_code
def yX10_count : MethodName := ⟨RX10, "count", "(I)I"⟩
abbrev cX10_refuse : ByteArray := prog_1_method_53_code
def yX10_refuse : MethodName := ⟨RX10, "refuse", "(I)I"⟩
abbrev cX10_addMoved : ByteArray := prog_1_method_54_code
def yX10_addMoved : MethodName := ⟨RX10, "addMoved", "(LQuarterWalks$StepSet;[III)I"⟩
abbrev cX10_terms : ByteArray := prog_1_method_55_code
def yX10_terms : MethodName := ⟨RX10, "terms", "(LQuarterWalks$StepSet;)[I"⟩
abbrev cX10_term : ByteArray := prog_1_method_56_code
def yX10_term : MethodName := ⟨RX10, "term", "(LQuarterWalks$StepSet;II)I"⟩
abbrev cX10_isHalfEnough : ByteArray := prog_1_method_57_code
def yX10_isHalfEnough : MethodName := ⟨RX10, "isHalfEnough", "(LQuarterWalks$StepSet;I)Z"⟩
abbrev cX10_areAlike : ByteArray := prog_1_method_58_code
def yX10_areAlike : MethodName := ⟨RX10, "areAlike", "([I[I)Z"⟩
abbrev cX10_readies : ByteArray := prog_1_method_59_code
def yX10_readies : MethodName := ⟨RX10, "readies", "(IIIII)Z"⟩
abbrev cX10_unlikeSets : ByteArray := prog_1_method_60_code
def yX10_unlikeSets : MethodName := ⟨RX10, "unlikeSets", "()I"⟩
abbrev cX10_isRepeated : ByteArray := prog_1_method_61_code
def yX10_isRepeated : MethodName := ⟨RX10, "isRepeated", "(I)Z"⟩
abbrev cX10_commonSteps : ByteArray := prog_1_method_62_code
def yX10_commonSteps : MethodName := ⟨RX10, "commonSteps", "()I"⟩
abbrev cX10_greatestBy : ByteArray := prog_1_method_63_code
def yX10_greatestBy : MethodName := ⟨RX10, "greatestBy", "(I)I"⟩
abbrev cX10_within : ByteArray := prog_1_method_64_code
def yX10_within : MethodName := ⟨RX10, "within", "(III)Z"⟩
abbrev cX10_isLength : ByteArray := prog_1_method_65_code
def yX10_isLength : MethodName := ⟨RX10, "isLength", "(I)Z"⟩
abbrev cX10_isNear : ByteArray := prog_1_method_66_code
def yX10_isNear : MethodName := ⟨RX10, "isNear", "(II)Z"⟩
abbrev cX10_isKind : ByteArray := prog_1_method_67_code
def yX10_isKind : MethodName := ⟨RX10, "isKind", "(I)Z"⟩
abbrev cX10_isUnit : ByteArray := prog_1_method_68_code
def yX10_isUnit : MethodName := ⟨RX10, "isUnit", "(I)Z"⟩
abbrev cX10_areDigits : ByteArray := prog_1_method_69_code
def yX10_areDigits : MethodName := ⟨RX10, "areDigits", "([I)Z"⟩
abbrev cX10_fitsLong : ByteArray := prog_1_method_70_code
def yX10_fitsLong : MethodName := ⟨RX10, "fitsLong", "(II)Z"⟩
abbrev cX10_commonDivisor : ByteArray := prog_1_method_71_code
def yX10_commonDivisor : MethodName := ⟨RX10, "commonDivisor", "(II)I"⟩
abbrev cX10_residue : ByteArray := prog_1_method_72_code
def yX10_residue : MethodName := ⟨RX10, "residue", "(J)I"⟩
abbrev cX10_times : ByteArray := prog_1_method_73_code
def yX10_times : MethodName := ⟨RX10, "times", "(JJ)I"⟩
abbrev cX10_inverse : ByteArray := prog_1_method_74_code
def yX10_inverse : MethodName := ⟨RX10, "inverse", "(I)I"⟩
def RX11 : String := "QuarterWalksModel"
def TX11 : u_T := fun k => match k with
  | 0 => ("QuarterWalksModel", "thrown", "I", false)
  | 1 => ("QuarterWalksModel", "tape", "[B", true)
  | 2 => ("QuarterWalksModel", "length", "I", false)
  | 3 => ("QuarterWalksModel", "at", "I", false)
  | 4 => ("QuarterWalksModel", "fault", "I", false)
  | 5 => ("QuarterWalksModel", "read", "[I", true)
  | 6 => ("QuarterWalksModel", "book", "[I", true)
  | 7 => ("QuarterWalksModel", "image", "[I", true)
  | 8 => ("QuarterWalksModel", "kept", "[I", true)
  | 9 => ("QuarterWalksModel", "refused", "[I", true)
  | 10 => ("QuarterWalksModel", "acts", "I", false)
  | 11 => ("QuarterWalksModel", "hasImage", "Z", false)
  | 12 => ("QuarterWalksModel", "grid", "[J", false)
  | 13 => ("QuarterWalksModel", "next", "[J", false)
  | 14 => ("QuarterWalksModel", "gone", "I", false)
  | 15 => ("QuarterWalksModel", "term", "[I", true)
  | 16 => ("QuarterWalksModel", "other", "[I", true)
  | 17 => ("QuarterWalksModel", "table", "[J", true)
  | 18 => ("QuarterWalksModel", "determinant", "J", false)
  | 19 => ("QuarterWalksModel", "held", "[J", true)
  | 20 => ("QuarterWalksModel", "orbitX", "[I", true)
  | 21 => ("QuarterWalksModel", "orbitY", "[I", true)
  | 22 => ("QuarterWalksModel", "column", "[J", true)
  | 23 => ("QuarterWalksModel", "reduced", "[J", true)
  | 24 => ("QuarterWalksModel", "made", "[J", true)
  | 25 => ("QuarterWalksModel", "told", "[J", true)
  | 26 => ("QuarterWalksModel", "leads", "[I", true)
  | 27 => ("QuarterWalksModel", "columns", "I", false)
  | 28 => ("QuarterWalksModel", "rows", "I", false)
  | 29 => ("QuarterWalksModel", "powers", "[J", true)
  | 30 => ("QuarterWalksModel", "said", "[I", true)
  | _ => ("QuarterWalksModel", "says", "I", false)
def tyX11 : Nat → FieldType := fun k => match k with
  | 0 => .int
  | 1 => .array .byte
  | 2 => .int
  | 3 => .int
  | 4 => .int
  | 5 => .array .int
  | 6 => .array .int
  | 7 => .array .int
  | 8 => .array .int
  | 9 => .array .int
  | 10 => .int
  | 11 => .boolean
  | 12 => .array .long
  | 13 => .array .long
  | 14 => .int
  | 15 => .array .int
  | 16 => .array .int
  | 17 => .array .long
  | 18 => .long
  | 19 => .array .long
  | 20 => .array .int
  | 21 => .array .int
  | 22 => .array .long
  | 23 => .array .long
  | 24 => .array .long
  | 25 => .array .long
  | 26 => .array .int
  | 27 => .int
  | 28 => .int
  | 29 => .array .long
  | 30 => .array .int
  | _ => .int
abbrev wsX110 : List Cond := u_ws RX11 TX11 32
theorem nmX11 : ∀ a, a < 32 → ∀ b, b < 32 → a ≠ b → (TX11 a).2.1 ≠ (TX11 b).2.1 := by decide +kernel
theorem tyX11_ok : ∀ k, k < 32 → parseFieldDescriptor (TX11 k).2.2.1 = some (tyX11 k) := by decide +kernel
abbrev cX11_init : ByteArray := prog_13_method_1_code
def yX11_init : MethodName := ⟨RX11, "<init>", "()V"⟩
abbrev cX11_thrown : ByteArray := prog_13_method_2_code
def yX11_thrown : MethodName := ⟨RX11, "thrown", "()I"⟩
abbrev cX11_isIn : ByteArray := prog_13_method_3_code
def yX11_isIn : MethodName := ⟨RX11, "isIn", "(JJJ)Z"⟩
abbrev cX11_dx : ByteArray := prog_13_method_4_code
def yX11_dx : MethodName := ⟨RX11, "dx", "(I)I"⟩
abbrev cX11_dy : ByteArray := prog_13_method_5_code
def yX11_dy : MethodName := ⟨RX11, "dy", "(I)I"⟩
abbrev cX11_bytesOf : ByteArray := prog_13_method_6_code
def yX11_bytesOf : MethodName := ⟨RX11, "bytesOf", "(I)I"⟩
abbrev cX11_brings : ByteArray := prog_13_method_7_code
def yX11_brings : MethodName := ⟨RX11, "brings", "(I)V"⟩
abbrev cX11_feed : ByteArray := prog_13_method_8_code
def yX11_feed : MethodName := ⟨RX11, "feed", "(IIIII)I"⟩
abbrev cX11_end : ByteArray := prog_13_method_9_code
def yX11_end : MethodName := ⟨RX11, "end", "(I)Z"⟩
abbrev cX11_here : ByteArray := prog_13_method_10_code
def yX11_here : MethodName := ⟨RX11, "here", "()I"⟩
abbrev cX11_look : ByteArray := prog_13_method_11_code
def yX11_look : MethodName := ⟨RX11, "look", "()I"⟩
abbrev cX11_fails : ByteArray := prog_13_method_12_code
def yX11_fails : MethodName := ⟨RX11, "fails", "(I)V"⟩
abbrev cX11_word : ByteArray := prog_13_method_13_code
def yX11_word : MethodName := ⟨RX11, "word", "(Ljava/lang/String;)Z"⟩
abbrev cX11_isDigit : ByteArray := prog_13_method_14_code
def yX11_isDigit : MethodName := ⟨RX11, "isDigit", "()Z"⟩
abbrev cX11_digit : ByteArray := prog_13_method_15_code
def yX11_digit : MethodName := ⟨RX11, "digit", "(I)I"⟩
abbrev cX11_stepHere : ByteArray := prog_13_method_16_code
def yX11_stepHere : MethodName := ⟨RX11, "stepHere", "()I"⟩
abbrev cX11_readsStep : ByteArray := prog_13_method_17_code
def yX11_readsStep : MethodName := ⟨RX11, "readsStep", "()V"⟩
abbrev cX11_readsStart : ByteArray := prog_13_method_18_code
def yX11_readsStart : MethodName := ⟨RX11, "readsStart", "()V"⟩
abbrev cX11_reads : ByteArray := prog_13_method_19_code
def yX11_reads : MethodName := ⟨RX11, "reads", "()I"⟩
abbrev cX11_fault : ByteArray := prog_13_method_20_code
def yX11_fault : MethodName := ⟨RX11, "fault", "()I"⟩
abbrev cX11_refuse : ByteArray := prog_13_method_21_code
def yX11_refuse : MethodName := ⟨RX11, "refuse", "(I)I"⟩
abbrev cX11_keeps : ByteArray := prog_13_method_22_code
def yX11_keeps : MethodName := ⟨RX11, "keeps", "()V"⟩
abbrev cX11_isSet : ByteArray := prog_13_method_23_code
def yX11_isSet : MethodName := ⟨RX11, "isSet", "(I)Z"⟩
abbrev cX11_weightOf : ByteArray := prog_13_method_24_code
def yX11_weightOf : MethodName := ⟨RX11, "weightOf", "(II)I"⟩
abbrev cX11_comes : ByteArray := prog_13_method_25_code
def yX11_comes : MethodName := ⟨RX11, "comes", "()I"⟩
abbrev cX11_tell : ByteArray := prog_13_method_26_code
def yX11_tell : MethodName := ⟨RX11, "tell", "()I"⟩
abbrev cX11_drop : ByteArray := prog_13_method_27_code
def yX11_drop : MethodName := ⟨RX11, "drop", "(I)I"⟩
abbrev cX11_mirror : ByteArray := prog_13_method_28_code
def yX11_mirror : MethodName := ⟨RX11, "mirror", "(I)I"⟩
abbrev cX11_turn : ByteArray := prog_13_method_29_code
def yX11_turn : MethodName := ⟨RX11, "turn", "(I)I"⟩
abbrev cX11_join : ByteArray := prog_13_method_30_code
def yX11_join : MethodName := ⟨RX11, "join", "(II)I"⟩
abbrev cX11_scale : ByteArray := prog_13_method_31_code
def yX11_scale : MethodName := ⟨RX11, "scale", "(II)I"⟩
abbrev cX11_stepsOf : ByteArray := prog_13_method_32_code
def yX11_stepsOf : MethodName := ⟨RX11, "stepsOf", "(I)I"⟩
abbrev cX11_weigh : ByteArray := prog_13_method_33_code
def yX11_weigh : MethodName := ⟨RX11, "weigh", "(III)I"⟩
abbrev cX11_start : ByteArray := prog_13_method_34_code
def yX11_start : MethodName := ⟨RX11, "start", "(III)I"⟩
abbrev cX11_worthOf : ByteArray := prog_13_method_35_code
def yX11_worthOf : MethodName := ⟨RX11, "worthOf", "(I)I"⟩
abbrev cX11_bitsOf : ByteArray := prog_13_method_36_code
def yX11_bitsOf : MethodName := ⟨RX11, "bitsOf", "(I)I"⟩
abbrev cX11_driftOf : ByteArray := prog_13_method_37_code
def yX11_driftOf : MethodName := ⟨RX11, "driftOf", "(IZ)I"⟩
abbrev cX11_rule : ByteArray := prog_13_method_38_code
def yX11_rule : MethodName := ⟨RX11, "rule", "(II)I"⟩
abbrev cX11_cell : ByteArray := prog_13_method_39_code
def yX11_cell : MethodName := ⟨RX11, "cell", "(II)I"⟩
abbrev cX11_isInside : ByteArray := prog_13_method_40_code
def yX11_isInside : MethodName := ⟨RX11, "isInside", "(III)Z"⟩
abbrev cX11_begins : ByteArray := prog_13_method_41_code
def yX11_begins : MethodName := ⟨RX11, "begins", "(I)V"⟩
abbrev cX11_with : ByteArray := prog_13_method_42_code
def yX11_with : MethodName := ⟨RX11, "with", "(JJII)J"⟩
abbrev cX11_goes : ByteArray := prog_13_method_43_code
def yX11_goes : MethodName := ⟨RX11, "goes", "(III)V"⟩
abbrev cX11_goesOn : ByteArray := prog_13_method_44_code
def yX11_goesOn : MethodName := ⟨RX11, "goesOn", "(IIII)V"⟩
abbrev cX11_gridAt : ByteArray := prog_13_method_45_code
def yX11_gridAt : MethodName := ⟨RX11, "gridAt", "(II)J"⟩
abbrev cX11_isFar : ByteArray := prog_13_method_46_code
def yX11_isFar : MethodName := ⟨RX11, "isFar", "(II)Z"⟩
abbrev cX11_isLong : ByteArray := prog_13_method_47_code
def yX11_isLong : MethodName := ⟨RX11, "isLong", "(I)Z"⟩
abbrev cX11_at : ByteArray := prog_13_method_48_code
def yX11_at : MethodName := ⟨RX11, "at", "(IIIII)I"⟩
abbrev cX11_isOf : ByteArray := prog_13_method_49_code
def yX11_isOf : MethodName := ⟨RX11, "isOf", "(IIII)Z"⟩
abbrev cX11_sumOf : ByteArray := prog_13_method_50_code
def yX11_sumOf : MethodName := ⟨RX11, "sumOf", "(II)I"⟩
abbrev cX11_laysTerms : ByteArray := prog_13_method_51_code
def yX11_laysTerms : MethodName := ⟨RX11, "laysTerms", "(IIII[I)V"⟩
abbrev cX11_series : ByteArray := prog_13_method_52_code
def yX11_series : MethodName := ⟨RX11, "series", "(III)I"⟩
abbrev cX11_isExact : ByteArray := prog_13_method_53_code
def yX11_isExact : MethodName := ⟨RX11, "isExact", "(II)Z"⟩
abbrev cX11_exact : ByteArray := prog_13_method_54_code
def yX11_exact : MethodName := ⟨RX11, "exact", "(IIII)J"⟩
abbrev cX11_out : ByteArray := prog_13_method_55_code
def yX11_out : MethodName := ⟨RX11, "out", "(II)I"⟩
abbrev cX11_arches : ByteArray := prog_13_method_56_code
def yX11_arches : MethodName := ⟨RX11, "arches", "(II)I"⟩
abbrev cX11_power : ByteArray := prog_13_method_57_code
def yX11_power : MethodName := ⟨RX11, "power", "(JI)J"⟩
abbrev cX11_value : ByteArray := prog_13_method_58_code
def yX11_value : MethodName := ⟨RX11, "value", "(IIII)I"⟩
abbrev cX11_convolved : ByteArray := prog_13_method_59_code
def yX11_convolved : MethodName := ⟨RX11, "convolved", "(IIIII)I"⟩
abbrev cX11_bridge : ByteArray := prog_13_method_60_code
def yX11_bridge : MethodName := ⟨RX11, "bridge", "(IIII)I"⟩
abbrev cX11_clears : ByteArray := prog_13_method_61_code
def yX11_clears : MethodName := ⟨RX11, "clears", "(II)V"⟩
abbrev cX11_isEven : ByteArray := prog_13_method_62_code
def yX11_isEven : MethodName := ⟨RX11, "isEven", "(I)Z"⟩
abbrev cX11_reflected : ByteArray := prog_13_method_63_code
def yX11_reflected : MethodName := ⟨RX11, "reflected", "(IIII)I"⟩
abbrev cX11_ranks : ByteArray := prog_13_method_64_code
def yX11_ranks : MethodName := ⟨RX11, "ranks", "(I)I"⟩
abbrev cX11_hankel : ByteArray := prog_13_method_65_code
def yX11_hankel : MethodName := ⟨RX11, "hankel", "(III)I"⟩
abbrev cX11_rank : ByteArray := prog_13_method_66_code
def yX11_rank : MethodName := ⟨RX11, "rank", "(II)I"⟩
abbrev cX11_ratio : ByteArray := prog_13_method_67_code
def yX11_ratio : MethodName := ⟨RX11, "ratio", "(III)I"⟩
abbrev cX11_walksFrom : ByteArray := prog_13_method_68_code
def yX11_walksFrom : MethodName := ⟨RX11, "walksFrom", "(IIIIII)J"⟩
abbrev cX11_walkStep : ByteArray := prog_13_method_69_code
def yX11_walkStep : MethodName := ⟨RX11, "walkStep", "(IIIIJI)I"⟩
abbrev cX11_isFew : ByteArray := prog_13_method_70_code
def yX11_isFew : MethodName := ⟨RX11, "isFew", "(I)Z"⟩
abbrev cX11_walksTo : ByteArray := prog_13_method_71_code
def yX11_walksTo : MethodName := ⟨RX11, "walksTo", "(IIII)J"⟩
abbrev cX11_walk : ByteArray := prog_13_method_72_code
def yX11_walk : MethodName := ⟨RX11, "walk", "(IIIIII)I"⟩
abbrev cX11_drawn : ByteArray := prog_13_method_73_code
def yX11_drawn : MethodName := ⟨RX11, "drawn", "(IIIIJI)I"⟩
abbrev cX11_peak : ByteArray := prog_13_method_74_code
def yX11_peak : MethodName := ⟨RX11, "peak", "(III)I"⟩
abbrev cX11_points : ByteArray := prog_13_method_75_code
def yX11_points : MethodName := ⟨RX11, "points", "(II)I"⟩
abbrev cX11_fewest : ByteArray := prog_13_method_76_code
def yX11_fewest : MethodName := ⟨RX11, "fewest", "(III)I"⟩
abbrev cX11_common : ByteArray := prog_13_method_77_code
def yX11_common : MethodName := ⟨RX11, "common", "(II)I"⟩
abbrev cX11_period : ByteArray := prog_13_method_78_code
def yX11_period : MethodName := ⟨RX11, "period", "(I)I"⟩
abbrev cX11_meet : ByteArray := prog_13_method_79_code
def yX11_meet : MethodName := ⟨RX11, "meet", "(III)I"⟩
abbrev cX11_inverse : ByteArray := prog_13_method_80_code
def yX11_inverse : MethodName := ⟨RX11, "inverse", "(J)J"⟩
abbrev cX11_power2 : ByteArray := prog_13_method_81_code
def yX11_power2 : MethodName := ⟨RX11, "power2", "(JI)J"⟩
abbrev cX11_by : ByteArray := prog_13_method_82_code
def yX11_by : MethodName := ⟨RX11, "by", "(JI)J"⟩
abbrev cX11_isField : ByteArray := prog_13_method_83_code
def yX11_isField : MethodName := ⟨RX11, "isField", "(II)Z"⟩
abbrev cX11_kernel : ByteArray := prog_13_method_84_code
def yX11_kernel : MethodName := ⟨RX11, "kernel", "(III)I"⟩
abbrev cX11_part : ByteArray := prog_13_method_85_code
def yX11_part : MethodName := ⟨RX11, "part", "(IIIJ)J"⟩
abbrev cX11_turns : ByteArray := prog_13_method_86_code
def yX11_turns : MethodName := ⟨RX11, "turns", "(IIII)I"⟩
abbrev cX11_turned : ByteArray := prog_13_method_87_code
def yX11_turned : MethodName := ⟨RX11, "turned", "(IIII)I"⟩
abbrev cX11_laysOrbit : ByteArray := prog_13_method_88_code
def yX11_laysOrbit : MethodName := ⟨RX11, "laysOrbit", "(III)I"⟩
abbrev cX11_orbit : ByteArray := prog_13_method_89_code
def yX11_orbit : MethodName := ⟨RX11, "orbit", "(IIIII)I"⟩
abbrev cX11_groupOf : ByteArray := prog_13_method_90_code
def yX11_groupOf : MethodName := ⟨RX11, "groupOf", "(I)I"⟩
abbrev cX11_group : ByteArray := prog_13_method_91_code
def yX11_group : MethodName := ⟨RX11, "group", "(I)I"⟩
abbrev cX11_sum : ByteArray := prog_13_method_92_code
def yX11_sum : MethodName := ⟨RX11, "sum", "(III)I"⟩
abbrev cX11_noUse : ByteArray := prog_13_method_93_code
def yX11_noUse : MethodName := ⟨RX11, "noUse", "(I)I"⟩
abbrev cX11_isAsMany : ByteArray := prog_13_method_94_code
def yX11_isAsMany : MethodName := ⟨RX11, "isAsMany", "(II)Z"⟩
abbrev cX11_enough : ByteArray := prog_13_method_95_code
def yX11_enough : MethodName := ⟨RX11, "enough", "(I)I"⟩
abbrev cX11_areAlike : ByteArray := prog_13_method_96_code
def yX11_areAlike : MethodName := ⟨RX11, "areAlike", "(II)Z"⟩
abbrev cX11_alike : ByteArray := prog_13_method_97_code
def yX11_alike : MethodName := ⟨RX11, "alike", "(I)I"⟩
abbrev cX11_less : ByteArray := prog_13_method_98_code
def yX11_less : MethodName := ⟨RX11, "less", "(IIJ)V"⟩
abbrev cX11_leadOf : ByteArray := prog_13_method_99_code
def yX11_leadOf : MethodName := ⟨RX11, "leadOf", "(I)I"⟩
abbrev cX11_hangs : ByteArray := prog_13_method_100_code
def yX11_hangs : MethodName := ⟨RX11, "hangs", "()Z"⟩
abbrev cX11_laysPowers : ByteArray := prog_13_method_101_code
def yX11_laysPowers : MethodName := ⟨RX11, "laysPowers", "()V"⟩
abbrev cX11_entry : ByteArray := prog_13_method_102_code
def yX11_entry : MethodName := ⟨RX11, "entry", "(IIII)J"⟩
abbrev cX11_guesses : ByteArray := prog_13_method_103_code
def yX11_guesses : MethodName := ⟨RX11, "guesses", "(III)Z"⟩
abbrev cX11_failsAt : ByteArray := prog_13_method_104_code
def yX11_failsAt : MethodName := ⟨RX11, "failsAt", "(III)I"⟩
abbrev cX11_isGuess : ByteArray := prog_13_method_105_code
def yX11_isGuess : MethodName := ⟨RX11, "isGuess", "(IIIII)Z"⟩
abbrev cX11_laysAll : ByteArray := prog_13_method_106_code
def yX11_laysAll : MethodName := ⟨RX11, "laysAll", "(II)V"⟩
abbrev cX11_numberOf : ByteArray := prog_13_method_107_code
def yX11_numberOf : MethodName := ⟨RX11, "numberOf", "(IIIIIII)I"⟩
abbrev cX11_failOf : ByteArray := prog_13_method_108_code
def yX11_failOf : MethodName := ⟨RX11, "failOf", "(IIIII)I"⟩
abbrev cX11_recurrence : ByteArray := prog_13_method_109_code
def yX11_recurrence : MethodName := ⟨RX11, "recurrence", "(IIIIII)I"⟩
abbrev cX11_fails_ : ByteArray := prog_13_method_110_code
def yX11_fails_ : MethodName := ⟨RX11, "fails", "(IIII)I"⟩
abbrev cX11_equation : ByteArray := prog_13_method_111_code
def yX11_equation : MethodName := ⟨RX11, "equation", "(IIIIII)I"⟩
abbrev cX11_breaks : ByteArray := prog_13_method_112_code
def yX11_breaks : MethodName := ⟨RX11, "breaks", "(IIII)I"⟩
abbrev cX11_least : ByteArray := prog_13_method_113_code
def yX11_least : MethodName := ⟨RX11, "least", "(III)I"⟩
abbrev cX11_says : ByteArray := prog_13_method_114_code
def yX11_says : MethodName := ⟨RX11, "says", "(Ljava/lang/String;)V"⟩
abbrev cX11_nameOf : ByteArray := prog_13_method_115_code
def yX11_nameOf : MethodName := ⟨RX11, "nameOf", "(I)Ljava/lang/String;"⟩
abbrev cX11_saysDigit : ByteArray := prog_13_method_116_code
def yX11_saysDigit : MethodName := ⟨RX11, "saysDigit", "(I)V"⟩
abbrev cX11_writes : ByteArray := prog_13_method_117_code
def yX11_writes : MethodName := ⟨RX11, "writes", "(I)V"⟩
abbrev cX11_written : ByteArray := prog_13_method_118_code
def yX11_written : MethodName := ⟨RX11, "written", "(II)I"⟩
abbrev cX11_undo : ByteArray := prog_13_method_119_code
def yX11_undo : MethodName := ⟨RX11, "undo", "()I"⟩
abbrev cX11_image : ByteArray := prog_13_method_120_code
def yX11_image : MethodName := ⟨RX11, "image", "()I"⟩
abbrev cX11_back : ByteArray := prog_13_method_121_code
def yX11_back : MethodName := ⟨RX11, "back", "()I"⟩
abbrev cX11_status : ByteArray := prog_13_method_122_code
def yX11_status : MethodName := ⟨RX11, "status", "(I)I"⟩
abbrev cX11_numberFor : ByteArray := prog_13_method_123_code
def yX11_numberFor : MethodName := ⟨RX11, "numberFor", "(II)I"⟩
abbrev cX11_mostBy : ByteArray := prog_13_method_124_code
def yX11_mostBy : MethodName := ⟨RX11, "mostBy", "(I)I"⟩
abbrev cX11_areOne : ByteArray := prog_13_method_125_code
def yX11_areOne : MethodName := ⟨RX11, "areOne", "(II)Z"⟩
abbrev cX11_unlike : ByteArray := prog_13_method_126_code
def yX11_unlike : MethodName := ⟨RX11, "unlike", "()I"⟩
abbrev cX11_most : ByteArray := prog_13_method_127_code
def yX11_most : MethodName := ⟨RX11, "most", "(I)I"⟩
abbrev cX11_count : ByteArray := prog_13_method_128_code
def yX11_count : MethodName := ⟨RX11, "count", "(I)I"⟩
def RJx145de : String := "java/io/Serializable"
def TJx145de : u_T := fun k => match k with
  | _ => ("", "", "", false)
def tyJx145de : Nat → FieldType := fun k => match k with
  | _ => .int
abbrev wsJx145de0 : List Cond := u_ws RJx145de TJx145de 0
theorem nmJx145de : ∀ a, a < 0 → ∀ b, b < 0 → a ≠ b → (TJx145de a).2.1 ≠ (TJx145de b).2.1 := by decide +kernel
theorem tyJx145de_ok : ∀ k, k < 0 → parseFieldDescriptor (TJx145de k).2.2.1 = some (tyJx145de k) := by decide +kernel
def RJ5 : String := "java/lang/AbstractStringBuilder"
def TJ5 : u_T := fun k => match k with
  | _ => ("", "", "", false)
def tyJ5 : Nat → FieldType := fun k => match k with
  | _ => .int
abbrev wsJ50 : List Cond := u_ws RJ5 TJ5 0
theorem nmJ5 : ∀ a, a < 0 → ∀ b, b < 0 → a ≠ b → (TJ5 a).2.1 ≠ (TJ5 b).2.1 := by decide +kernel
theorem tyJ5_ok : ∀ k, k < 0 → parseFieldDescriptor (TJ5 k).2.2.1 = some (tyJ5 k) := by decide +kernel
abbrev cJ5_init_d00df : ByteArray := prog_15_method_2_code
def yJ5_init_d00df : MethodName := ⟨RJ5, "<init>", "(I)V"⟩
abbrev cJ5_length_8abf5 : ByteArray := prog_15_method_6_code
def yJ5_length_8abf5 : MethodName := ⟨RJ5, "length", "()I"⟩
abbrev cJ5_ensureCapacityInternal_d00df : ByteArray := prog_15_method_9_code
def yJ5_ensureCapacityInternal_d00df : MethodName := ⟨RJ5, "ensureCapacityInternal", "(I)V"⟩
abbrev cJ5_newCapacity_0f7a4 : ByteArray := prog_15_method_10_code
def yJ5_newCapacity_0f7a4 : MethodName := ⟨RJ5, "newCapacity", "(I)I"⟩
abbrev cJ5_inflate_da8c8 : ByteArray := prog_15_method_11_code
def yJ5_inflate_da8c8 : MethodName := ⟨RJ5, "inflate", "()V"⟩
abbrev cJ5_setLength_d00df : ByteArray := prog_15_method_13_code
def yJ5_setLength_d00df : MethodName := ⟨RJ5, "setLength", "(I)V"⟩
abbrev cJ5_charAt_5068e : ByteArray := prog_15_method_14_code
def yJ5_charAt_5068e : MethodName := ⟨RJ5, "charAt", "(I)C"⟩
abbrev cJ5_append_cf1ce : ByteArray := prog_15_method_22_code
def yJ5_append_cf1ce : MethodName := ⟨RJ5, "append", "(Ljava/lang/String;)Ljava/lang/AbstractStringBuilder;"⟩
abbrev cJ5_appendNull_278bc : ByteArray := prog_15_method_26_code
def yJ5_appendNull_278bc : MethodName := ⟨RJ5, "appendNull", "()Ljava/lang/AbstractStringBuilder;"⟩
abbrev cJ5_append_3fe6f : ByteArray := prog_15_method_31_code
def yJ5_append_3fe6f : MethodName := ⟨RJ5, "append", "(C)Ljava/lang/AbstractStringBuilder;"⟩
abbrev cJ5_append_c97b9 : ByteArray := prog_15_method_32_code
def yJ5_append_c97b9 : MethodName := ⟨RJ5, "append", "(I)Ljava/lang/AbstractStringBuilder;"⟩
abbrev cJ5_isLatin1_aae02 : ByteArray := prog_15_method_68_code
def yJ5_isLatin1_aae02 : MethodName := ⟨RJ5, "isLatin1", "()Z"⟩
abbrev cJ5_inflateIfNeededFor_a7421 : ByteArray := prog_15_method_71_code
def yJ5_inflateIfNeededFor_a7421 : MethodName := ⟨RJ5, "inflateIfNeededFor", "(Ljava/lang/String;)V"⟩
abbrev cJ5_putStringAt_47b60 : ByteArray := prog_15_method_73_code
def yJ5_putStringAt_47b60 : MethodName := ⟨RJ5, "putStringAt", "(ILjava/lang/String;)V"⟩
def RJx2cfe8 : String := "java/lang/Appendable"
def TJx2cfe8 : u_T := fun k => match k with
  | _ => ("", "", "", false)
def tyJx2cfe8 : Nat → FieldType := fun k => match k with
  | _ => .int
abbrev wsJx2cfe80 : List Cond := u_ws RJx2cfe8 TJx2cfe8 0
theorem nmJx2cfe8 : ∀ a, a < 0 → ∀ b, b < 0 → a ≠ b → (TJx2cfe8 a).2.1 ≠ (TJx2cfe8 b).2.1 := by decide +kernel
theorem tyJx2cfe8_ok : ∀ k, k < 0 → parseFieldDescriptor (TJx2cfe8 k).2.2.1 = some (tyJx2cfe8 k) := by decide +kernel
def RJx9f9b0 : String := "java/lang/CharSequence"
def TJx9f9b0 : u_T := fun k => match k with
  | _ => ("", "", "", false)
def tyJx9f9b0 : Nat → FieldType := fun k => match k with
  | _ => .int
abbrev wsJx9f9b00 : List Cond := u_ws RJx9f9b0 TJx9f9b0 0
theorem nmJx9f9b0 : ∀ a, a < 0 → ∀ b, b < 0 → a ≠ b → (TJx9f9b0 a).2.1 ≠ (TJx9f9b0 b).2.1 := by decide +kernel
theorem tyJx9f9b0_ok : ∀ k, k < 0 → parseFieldDescriptor (TJx9f9b0 k).2.2.1 = some (tyJx9f9b0 k) := by decide +kernel
def RJx8e188 : String := "java/lang/Cloneable"
def TJx8e188 : u_T := fun k => match k with
  | _ => ("", "", "", false)
def tyJx8e188 : Nat → FieldType := fun k => match k with
  | _ => .int
abbrev wsJx8e1880 : List Cond := u_ws RJx8e188 TJx8e188 0
theorem nmJx8e188 : ∀ a, a < 0 → ∀ b, b < 0 → a ≠ b → (TJx8e188 a).2.1 ≠ (TJx8e188 b).2.1 := by decide +kernel
theorem tyJx8e188_ok : ∀ k, k < 0 → parseFieldDescriptor (TJx8e188 k).2.2.1 = some (tyJx8e188 k) := by decide +kernel
def RJxb160c : String := "java/lang/Comparable"
def TJxb160c : u_T := fun k => match k with
  | _ => ("", "", "", false)
def tyJxb160c : Nat → FieldType := fun k => match k with
  | _ => .int
abbrev wsJxb160c0 : List Cond := u_ws RJxb160c TJxb160c 0
theorem nmJxb160c : ∀ a, a < 0 → ∀ b, b < 0 → a ≠ b → (TJxb160c a).2.1 ≠ (TJxb160c b).2.1 := by decide +kernel
theorem tyJxb160c_ok : ∀ k, k < 0 → parseFieldDescriptor (TJxb160c k).2.2.1 = some (tyJxb160c k) := by decide +kernel
def RJ6 : String := "java/lang/Integer"
def TJ6 : u_T := fun k => match k with
  | _ => ("", "", "", false)
def tyJ6 : Nat → FieldType := fun k => match k with
  | _ => .int
abbrev wsJ60 : List Cond := u_ws RJ6 TJ6 0
theorem nmJ6 : ∀ a, a < 0 → ∀ b, b < 0 → a ≠ b → (TJ6 a).2.1 ≠ (TJ6 b).2.1 := by decide +kernel
theorem tyJ6_ok : ∀ k, k < 0 → parseFieldDescriptor (TJ6 k).2.2.1 = some (tyJ6 k) := by decide +kernel
abbrev cJ6_getChars_ba4f3 : ByteArray := prog_21_method_12_code
def yJ6_getChars_ba4f3 : MethodName := ⟨RJ6, "getChars", "(II[B)I"⟩
abbrev cJ6_stringSize_0f7a4 : ByteArray := prog_21_method_13_code
def yJ6_stringSize_0f7a4 : MethodName := ⟨RJ6, "stringSize", "(I)I"⟩
abbrev cJ6_bitCount_0f7a4 : ByteArray := prog_21_method_49_code
def yJ6_bitCount_0f7a4 : MethodName := ⟨RJ6, "bitCount", "(I)I"⟩
def RJ9 : String := "java/lang/Math"
def TJ9 : u_T := fun k => match k with
  | _ => ("", "", "", false)
def tyJ9 : Nat → FieldType := fun k => match k with
  | _ => .int
abbrev wsJ90 : List Cond := u_ws RJ9 TJ9 0
theorem nmJ9 : ∀ a, a < 0 → ∀ b, b < 0 → a ≠ b → (TJ9 a).2.1 ≠ (TJ9 b).2.1 := by decide +kernel
theorem tyJ9_ok : ∀ k, k < 0 → parseFieldDescriptor (TJ9 k).2.2.1 = some (tyJ9 k) := by decide +kernel
abbrev cJ9_floorMod_f86c9 : ByteArray := prog_22_method_52_code
def yJ9_floorMod_f86c9 : MethodName := ⟨RJ9, "floorMod", "(JJ)J"⟩
abbrev cJ9_max_7cf53 : ByteArray := prog_22_method_65_code
def yJ9_max_7cf53 : MethodName := ⟨RJ9, "max", "(II)I"⟩
abbrev cJ9_min_7cf53 : ByteArray := prog_22_method_69_code
def yJ9_min_7cf53 : MethodName := ⟨RJ9, "min", "(II)I"⟩
abbrev cJ9_min_f86c9 : ByteArray := prog_22_method_70_code
def yJ9_min_f86c9 : MethodName := ⟨RJ9, "min", "(JJ)J"⟩
def RJxd2413 : String := "java/lang/Number"
def TJxd2413 : u_T := fun k => match k with
  | _ => ("", "", "", false)
def tyJxd2413 : Nat → FieldType := fun k => match k with
  | _ => .int
abbrev wsJxd24130 : List Cond := u_ws RJxd2413 TJxd2413 0
theorem nmJxd2413 : ∀ a, a < 0 → ∀ b, b < 0 → a ≠ b → (TJxd2413 a).2.1 ≠ (TJxd2413 b).2.1 := by decide +kernel
theorem tyJxd2413_ok : ∀ k, k < 0 → parseFieldDescriptor (TJxd2413 k).2.2.1 = some (tyJxd2413 k) := by decide +kernel
def RJ0 : String := "java/lang/String"
def TJ0 : u_T := fun k => match k with
  | _ => ("", "", "", false)
def tyJ0 : Nat → FieldType := fun k => match k with
  | _ => .int
abbrev wsJ00 : List Cond := u_ws RJ0 TJ0 0
theorem nmJ0 : ∀ a, a < 0 → ∀ b, b < 0 → a ≠ b → (TJ0 a).2.1 ≠ (TJ0 b).2.1 := by decide +kernel
theorem tyJ0_ok : ∀ k, k < 0 → parseFieldDescriptor (TJ0 k).2.2.1 = some (tyJ0 k) := by decide +kernel
abbrev cJ0_length_8abf5 : ByteArray := prog_25_method_54_code
def yJ0_length_8abf5 : MethodName := ⟨RJ0, "length", "()I"⟩
abbrev cJ0_charAt_5068e : ByteArray := prog_25_method_56_code
def yJ0_charAt_5068e : MethodName := ⟨RJ0, "charAt", "(I)C"⟩
abbrev cJ0_getBytes_840e7 : ByteArray := prog_25_method_147_code
def yJ0_getBytes_840e7 : MethodName := ⟨RJ0, "getBytes", "([BIB)V"⟩
abbrev cJ0_coder_7d493 : ByteArray := prog_25_method_152_code
def yJ0_coder_7d493 : MethodName := ⟨RJ0, "coder", "()B"⟩
abbrev cJ0_isLatin1_aae02 : ByteArray := prog_25_method_154_code
def yJ0_isLatin1_aae02 : MethodName := ⟨RJ0, "isLatin1", "()Z"⟩
abbrev cJ0_checkIndex_df160 : ByteArray := prog_25_method_155_code
def yJ0_checkIndex_df160 : MethodName := ⟨RJ0, "checkIndex", "(II)V"⟩
abbrev cJ0_checkBoundsOffCount_cabcc : ByteArray := prog_25_method_157_code
def yJ0_checkBoundsOffCount_cabcc : MethodName := ⟨RJ0, "checkBoundsOffCount", "(III)I"⟩
abbrev cJ0_checkBoundsBeginEnd_23922 : ByteArray := prog_25_method_158_code
def yJ0_checkBoundsBeginEnd_23922 : MethodName := ⟨RJ0, "checkBoundsBeginEnd", "(III)V"⟩
def RJ4 : String := "java/lang/StringBuilder"
def TJ4 : u_T := fun k => match k with
  | 0 => ("java/lang/AbstractStringBuilder", "value", "[B", false)
  | 1 => ("java/lang/AbstractStringBuilder", "coder", "B", false)
  | 2 => ("java/lang/AbstractStringBuilder", "maybeLatin1", "Z", false)
  | _ => ("java/lang/AbstractStringBuilder", "count", "I", false)
def tyJ4 : Nat → FieldType := fun k => match k with
  | 0 => .array .byte
  | 1 => .byte
  | 2 => .boolean
  | _ => .int
abbrev wsJ40 : List Cond := u_ws RJ4 TJ4 4
theorem nmJ4 : ∀ a, a < 4 → ∀ b, b < 4 → a ≠ b → (TJ4 a).2.1 ≠ (TJ4 b).2.1 := by decide +kernel
theorem tyJ4_ok : ∀ k, k < 4 → parseFieldDescriptor (TJ4 k).2.2.1 = some (tyJ4 k) := by decide +kernel
abbrev cJ4_init_da8c8 : ByteArray := prog_26_method_1_code
def yJ4_init_da8c8 : MethodName := ⟨RJ4, "<init>", "()V"⟩
abbrev cJ4_append_15ec4 : ByteArray := prog_26_method_7_code
def yJ4_append_15ec4 : MethodName := ⟨RJ4, "append", "(Ljava/lang/String;)Ljava/lang/StringBuilder;"⟩
abbrev cJ4_append_cf468 : ByteArray := prog_26_method_14_code
def yJ4_append_cf468 : MethodName := ⟨RJ4, "append", "(C)Ljava/lang/StringBuilder;"⟩
abbrev cJ4_append_bf812 : ByteArray := prog_26_method_15_code
def yJ4_append_bf812 : MethodName := ⟨RJ4, "append", "(I)Ljava/lang/StringBuilder;"⟩
abbrev cJ4_charAt_5068e : ByteArray := prog_26_method_88_code
def yJ4_charAt_5068e : MethodName := ⟨RJ4, "charAt", "(I)C"⟩
abbrev cJ4_setLength_d00df : ByteArray := prog_26_method_89_code
def yJ4_setLength_d00df : MethodName := ⟨RJ4, "setLength", "(I)V"⟩
abbrev cJ4_length_8abf5 : ByteArray := prog_26_method_93_code
def yJ4_length_8abf5 : MethodName := ⟨RJ4, "length", "()I"⟩
def RJ1 : String := "java/lang/StringLatin1"
def TJ1 : u_T := fun k => match k with
  | _ => ("", "", "", false)
def tyJ1 : Nat → FieldType := fun k => match k with
  | _ => .int
abbrev wsJ10 : List Cond := u_ws RJ1 TJ1 0
theorem nmJ1 : ∀ a, a < 0 → ∀ b, b < 0 → a ≠ b → (TJ1 a).2.1 ≠ (TJ1 b).2.1 := by decide +kernel
theorem tyJ1_ok : ∀ k, k < 0 → parseFieldDescriptor (TJ1 k).2.2.1 = some (tyJ1 k) := by decide +kernel
abbrev cJ1_charAt_3b067 : ByteArray := prog_27_method_2_code
def yJ1_charAt_3b067 : MethodName := ⟨RJ1, "charAt", "([BI)C"⟩
abbrev cJ1_canEncode_fc78d : ByteArray := prog_27_method_3_code
def yJ1_canEncode_fc78d : MethodName := ⟨RJ1, "canEncode", "(C)Z"⟩
abbrev cJ1_fillNull_b72d1 : ByteArray := prog_27_method_48_code
def yJ1_fillNull_b72d1 : MethodName := ⟨RJ1, "fillNull", "([BII)V"⟩
abbrev cJ1_inflate_0e8fd : ByteArray := prog_27_method_50_code
def yJ1_inflate_0e8fd : MethodName := ⟨RJ1, "inflate", "([BI[BII)V"⟩
def RJ2 : String := "java/lang/StringUTF16"
def TJ2 : u_T := fun k => match k with
  | _ => ("", "", "", false)
def tyJ2 : Nat → FieldType := fun k => match k with
  | _ => .int
abbrev wsJ20 : List Cond := u_ws RJ2 TJ2 0
theorem nmJ2 : ∀ a, a < 0 → ∀ b, b < 0 → a ≠ b → (TJ2 a).2.1 ≠ (TJ2 b).2.1 := by decide +kernel
theorem tyJ2_ok : ∀ k, k < 0 → parseFieldDescriptor (TJ2 k).2.2.1 = some (tyJ2 k) := by decide +kernel
abbrev cJ2_newBytesFor_77867 : ByteArray := prog_28_method_2_code
def yJ2_newBytesFor_77867 : MethodName := ⟨RJ2, "newBytesFor", "(I)[B"⟩
abbrev cJ2_newBytesLength_0f7a4 : ByteArray := prog_28_method_3_code
def yJ2_newBytesLength_0f7a4 : MethodName := ⟨RJ2, "newBytesLength", "(I)I"⟩
abbrev cJ2_putChar_b72d1 : ByteArray := prog_28_method_4_code
def yJ2_putChar_b72d1 : MethodName := ⟨RJ2, "putChar", "([BII)V"⟩
abbrev cJ2_getChar_3b067 : ByteArray := prog_28_method_5_code
def yJ2_getChar_3b067 : MethodName := ⟨RJ2, "getChar", "([BI)C"⟩
abbrev cJ2_length_9d52b : ByteArray := prog_28_method_6_code
def yJ2_length_9d52b : MethodName := ⟨RJ2, "length", "([B)I"⟩
abbrev cJ2_fillNull_b72d1 : ByteArray := prog_28_method_70_code
def yJ2_fillNull_b72d1 : MethodName := ⟨RJ2, "fillNull", "([BII)V"⟩
abbrev cJ2_putCharSB_b72d1 : ByteArray := prog_28_method_71_code
def yJ2_putCharSB_b72d1 : MethodName := ⟨RJ2, "putCharSB", "([BII)V"⟩
abbrev cJ2_getChars_46870 : ByteArray := prog_28_method_77_code
def yJ2_getChars_46870 : MethodName := ⟨RJ2, "getChars", "(III[B)I"⟩
abbrev cJ2_putCharsAt_cd4e5 : ByteArray := prog_28_method_81_code
def yJ2_putCharsAt_cd4e5 : MethodName := ⟨RJ2, "putCharsAt", "([BICCCC)I"⟩
abbrev cJ2_charAt_3b067 : ByteArray := prog_28_method_83_code
def yJ2_charAt_3b067 : MethodName := ⟨RJ2, "charAt", "([BI)C"⟩
abbrev cJ2_inflate_0e8fd : ByteArray := prog_28_method_86_code
def yJ2_inflate_0e8fd : MethodName := ⟨RJ2, "inflate", "([BI[BII)V"⟩
abbrev cJ2_getChars_ba4f3 : ByteArray := prog_28_method_89_code
def yJ2_getChars_ba4f3 : MethodName := ⟨RJ2, "getChars", "(II[B)I"⟩
abbrev cJ2_checkIndex_2214a : ByteArray := prog_28_method_91_code
def yJ2_checkIndex_2214a : MethodName := ⟨RJ2, "checkIndex", "(I[B)V"⟩
abbrev cJ2_checkBoundsBeginEnd_d044e : ByteArray := prog_28_method_93_code
def yJ2_checkBoundsBeginEnd_d044e : MethodName := ⟨RJ2, "checkBoundsBeginEnd", "(II[B)V"⟩
abbrev cJ2_checkBoundsOffCount_d044e : ByteArray := prog_28_method_94_code
def yJ2_checkBoundsOffCount_d044e : MethodName := ⟨RJ2, "checkBoundsOffCount", "(II[B)V"⟩
def RJ10 : String := "java/lang/System"
def TJ10 : u_T := fun k => match k with
  | _ => ("", "", "", false)
def tyJ10 : Nat → FieldType := fun k => match k with
  | _ => .int
abbrev wsJ100 : List Cond := u_ws RJ10 TJ10 0
theorem nmJ10 : ∀ a, a < 0 → ∀ b, b < 0 → a ≠ b → (TJ10 a).2.1 ≠ (TJ10 b).2.1 := by decide +kernel
theorem tyJ10_ok : ∀ k, k < 0 → parseFieldDescriptor (TJ10 k).2.2.1 = some (tyJ10 k) := by decide +kernel
def RJxfd54e : String := "java/lang/constant/Constable"
def TJxfd54e : u_T := fun k => match k with
  | _ => ("", "", "", false)
def tyJxfd54e : Nat → FieldType := fun k => match k with
  | _ => .int
abbrev wsJxfd54e0 : List Cond := u_ws RJxfd54e TJxfd54e 0
theorem nmJxfd54e : ∀ a, a < 0 → ∀ b, b < 0 → a ≠ b → (TJxfd54e a).2.1 ≠ (TJxfd54e b).2.1 := by decide +kernel
theorem tyJxfd54e_ok : ∀ k, k < 0 → parseFieldDescriptor (TJxfd54e k).2.2.1 = some (tyJxfd54e k) := by decide +kernel
def RJx3cf43 : String := "java/lang/constant/ConstantDesc"
def TJx3cf43 : u_T := fun k => match k with
  | _ => ("", "", "", false)
def tyJx3cf43 : Nat → FieldType := fun k => match k with
  | _ => .int
abbrev wsJx3cf430 : List Cond := u_ws RJx3cf43 TJx3cf43 0
theorem nmJx3cf43 : ∀ a, a < 0 → ∀ b, b < 0 → a ≠ b → (TJx3cf43 a).2.1 ≠ (TJx3cf43 b).2.1 := by decide +kernel
theorem tyJx3cf43_ok : ∀ k, k < 0 → parseFieldDescriptor (TJx3cf43 k).2.2.1 = some (tyJx3cf43 k) := by decide +kernel
def RJ7 : String := "java/util/Arrays"
def TJ7 : u_T := fun k => match k with
  | _ => ("", "", "", false)
def tyJ7 : Nat → FieldType := fun k => match k with
  | _ => .int
abbrev wsJ70 : List Cond := u_ws RJ7 TJ7 0
theorem nmJ7 : ∀ a, a < 0 → ∀ b, b < 0 → a ≠ b → (TJ7 a).2.1 ≠ (TJ7 b).2.1 := by decide +kernel
theorem tyJ7_ok : ∀ k, k < 0 → parseFieldDescriptor (TJ7 k).2.2.1 = some (tyJ7 k) := by decide +kernel
abbrev cJ7_rangeCheck_23922 : ByteArray := prog_33_method_30_code
def yJ7_rangeCheck_23922 : MethodName := ⟨RJ7, "rangeCheck", "(III)V"⟩
abbrev cJ7_fill_53178 : ByteArray := prog_33_method_103_code
def yJ7_fill_53178 : MethodName := ⟨RJ7, "fill", "([II)V"⟩
abbrev cJ7_fill_eb02e : ByteArray := prog_33_method_110_code
def yJ7_fill_eb02e : MethodName := ⟨RJ7, "fill", "([BIIB)V"⟩
abbrev cJ7_copyOf_9075b : ByteArray := prog_33_method_121_code
def yJ7_copyOf_9075b : MethodName := ⟨RJ7, "copyOf", "([BI)[B"⟩
abbrev cJ7_copyOf_59c91 : ByteArray := prog_33_method_123_code
def yJ7_copyOf_59c91 : MethodName := ⟨RJ7, "copyOf", "([II)[I"⟩
def RJ8 : String := "jdk/internal/util/ArraysSupport"
def TJ8 : u_T := fun k => match k with
  | _ => ("", "", "", false)
def tyJ8 : Nat → FieldType := fun k => match k with
  | _ => .int
abbrev wsJ80 : List Cond := u_ws RJ8 TJ8 0
theorem nmJ8 : ∀ a, a < 0 → ∀ b, b < 0 → a ≠ b → (TJ8 a).2.1 ≠ (TJ8 b).2.1 := by decide +kernel
theorem tyJ8_ok : ∀ k, k < 0 → parseFieldDescriptor (TJ8 k).2.2.1 = some (tyJ8 k) := by decide +kernel
abbrev cJ8_newLength_cabcc : ByteArray := prog_35_method_27_code
def yJ8_newLength_cabcc : MethodName := ⟨RJ8, "newLength", "(III)I"⟩
abbrev cJ8_hugeLength_7cf53 : ByteArray := prog_35_method_28_code
def yJ8_hugeLength_7cf53 : MethodName := ⟨RJ8, "hugeLength", "(II)I"⟩
def RJ3 : String := "jdk/internal/util/Preconditions"
def TJ3 : u_T := fun k => match k with
  | _ => ("", "", "", false)
def tyJ3 : Nat → FieldType := fun k => match k with
  | _ => .int
abbrev wsJ30 : List Cond := u_ws RJ3 TJ3 0
theorem nmJ3 : ∀ a, a < 0 → ∀ b, b < 0 → a ≠ b → (TJ3 a).2.1 ≠ (TJ3 b).2.1 := by decide +kernel
theorem tyJ3_ok : ∀ k, k < 0 → parseFieldDescriptor (TJ3 k).2.2.1 = some (tyJ3 k) := by decide +kernel
abbrev cJ3_checkIndex_8e157 : ByteArray := prog_36_method_11_code
def yJ3_checkIndex_8e157 : MethodName := ⟨RJ3, "checkIndex", "(IILjava/util/function/BiFunction;)I"⟩
abbrev cJ3_checkFromToIndex_8c36e : ByteArray := prog_36_method_12_code
def yJ3_checkFromToIndex_8c36e : MethodName := ⟨RJ3, "checkFromToIndex", "(IIILjava/util/function/BiFunction;)I"⟩
abbrev cJ3_checkFromIndexSize_8c36e : ByteArray := prog_36_method_13_code
def yJ3_checkFromIndexSize_8c36e : MethodName := ⟨RJ3, "checkFromIndexSize", "(IIILjava/util/function/BiFunction;)I"⟩
def RL : String := "QuarterWalksLaw"
abbrev cL_rule : ByteArray := method_3_code
def yL_rule : MethodName := ⟨RL, "rule", "(LQuarterWalks;II[J)I"⟩
abbrev cL_law : ByteArray := code
def yL_law : MethodName := ⟨RL, "law", "([I)Z"⟩
abbrev vwCl : List vw_C := [(RJ4, TJ4, 4), (RX0, TX0, 6), (RX1, TX1, 4), (RX2, TX2, 11), (RX3, TX3, 4), (RX4, TX4, 4), (RX5, TX5, 2), (RX6, TX6, 4), (RX7, TX7, 7), (RX8, TX8, 2), (RX9, TX9, 4), (RX10, TX10, 10), (RX11, TX11, 32)]
/-- the words that every method may lean on -/
def wAll : List Cond := lw_tbl.filter goodWord
theorem wIn {w : Cond} (i : Nat) (h : lw_tbl[i]? = some w) (g : goodWord w = true) : w ∈ wAll := List.mem_filter.mpr ⟨List.mem_of_getElem? h, g⟩
theorem wAll_good : ∀ w ∈ wAll, (w.onTables && w.keeps) = true ∨ ∃ ty, w = .arrayClass ty := fun w h => good_of_word (List.mem_filter.mp h).2
theorem wAll_tbl : ∀ w ∈ wAll, w ∈ lw_tbl := fun w h => (List.mem_filter.mp h).1
end
section
/-! ===== the layer of this proof: a heap as a partial map, one context, one world; rows over them ===== -/
abbrev hM : Type := Nat → Option va_E
def hu (f : hM) (a : Nat) (e : va_E) : hM := fun q => if q = a then some e else f q
theorem hu_self (f : hM) (a : Nat) (e : va_E) : hu f a e a = some e := if_pos rfl
theorem hu_ne {f : hM} {a b : Nat} {e : va_E} (h : b ≠ a) : hu f a e b = f b := if_neg h
theorem hu_at {f : hM} {a b : Nat} {e x : va_E} (h : f b = some x) (hn : b ≠ a) : hu f a e b = some x := (hu_ne hn).trans h
theorem hu_id {f : hM} {a : Nat} {e : va_E} (h : f a = some e) : hu f a e = f := funext fun q => by
  by_cases hq : q = a
  · subst hq; rw [hu_self, h]
  · exact hu_ne hq
theorem hu_hu (f : hM) (a : Nat) (e e2 : va_E) : hu (hu f a e) a e2 = hu f a e2 := funext fun q => by
  by_cases hq : q = a
  · subst hq; rw [hu_self, hu_self]
  · rw [hu_ne hq, hu_ne hq, hu_ne hq]
theorem upd0 {k : Nat} : upd (fun _ => (0 : Int32)) k 0 = fun _ => 0 := funext fun j => by unfold upd; split <;> rfl
theorem upn0 {k : Nat} : va_up (fun _ => (none : Option Nat)) k none = fun _ => none := funext fun j => by unfold va_up; split <;> rfl
/-- a mark by which two cells are told apart -/
def ekind : va_E → Nat × Nat
  | .inl (_, n, .inl _) => (1, n)
  | .inl (_, n, .inr (.inl _)) => (2, n)
  | .inl (_, n, .inr (.inr _)) => (3, n)
  | .inr (ci, _) => (4, ci)
theorem hne {f : hM} {a b : Nat} {ea eb : va_E} (x y : Nat × Nat) (ha : f a = some ea) (hb : f b = some eb) (na : ekind ea = x) (nb : ekind eb = y) (h : x ≠ y) : b ≠ a := fun q => h (by subst q; rw [← na, ← nb]; exact congrArg ekind (Option.some.inj (ha.symm.trans hb)))
theorem hne0 {f : hM} {a b : Nat} {eb : va_E} (ha : f a = none) (hb : f b = some eb) : b ≠ a := fun q => by subst q; rw [ha] at hb; cases hb
def hP (D : va_G) (f : hM) (H : Heap) : Prop := ∀ (a : Nat) (e : va_E), f a = some e → va_at D vwCl (a, e) H
def hgy (G : Nat → Nat) : List (ClassId × FieldType) := [(G 0, .byte), (G 1, .int), (G 2, .long), (G 3, .object "QuarterWalks$Shelf"), (G 4, .object "QuarterWalks$StepSet"), (G 5, .array .int), (G 6, .array .long)]
/-- what may be written: all from b0 on -/
abbrev hA (b0 : Nat) : Nat → Prop := fun q => b0 ≤ q
def nest_m : List (String × Nat × MethodName × String) := [("QuarterWalks$Grid", 20, ⟨"QuarterWalks$Box", "<init>", "()V"⟩, "QuarterWalks"), ("QuarterWalks$Tape", 66, ⟨"QuarterWalks", "within", "(III)Z"⟩, "QuarterWalks"), ("QuarterWalks$Book", 29, ⟨"QuarterWalks", "within", "(III)Z"⟩, "QuarterWalks"), ("QuarterWalks$Grid", 125, ⟨"QuarterWalks", "residue", "(J)I"⟩, "QuarterWalks"), ("QuarterWalks$Matrix", 35, ⟨"QuarterWalks", "within", "(III)Z"⟩, "QuarterWalks"), ("QuarterWalks$Matrix", 45, ⟨"QuarterWalks", "times", "(JJ)I"⟩, "QuarterWalks"), ("QuarterWalks$Matrix", 49, ⟨"QuarterWalks", "inverse", "(I)I"⟩, "QuarterWalks"), ("QuarterWalks$Ways", 60, ⟨"QuarterWalks", "within", "(III)Z"⟩, "QuarterWalks"), ("QuarterWalks$Grid", 147, ⟨"QuarterWalks", "times", "(JJ)I"⟩, "QuarterWalks"), ("QuarterWalks$Turns", 31, ⟨"QuarterWalks", "inverse", "(I)I"⟩, "QuarterWalks"), ("QuarterWalks$Turns", 35, ⟨"QuarterWalks", "residue", "(J)I"⟩, "QuarterWalks"), ("QuarterWalks$Turns", 27, ⟨"QuarterWalks", "times", "(JJ)I"⟩, "QuarterWalks"), ("QuarterWalks$Guess", 26, ⟨"QuarterWalks", "within", "(III)Z"⟩, "QuarterWalks"), ("QuarterWalks$Guess", 44, ⟨"QuarterWalks", "times", "(JJ)I"⟩, "QuarterWalks"), ("QuarterWalks$Guess", 48, ⟨"QuarterWalks", "residue", "(J)I"⟩, "QuarterWalks")]
def nest_f : List (String × Nat × String × String × String × String) := [("QuarterWalks$Grid", 97, "QuarterWalks", "DX", "[I", "QuarterWalks"), ("QuarterWalks$Grid", 100, "QuarterWalks", "DY", "[I", "QuarterWalks"), ("QuarterWalks$Ways", 54, "QuarterWalks", "DX", "[I", "QuarterWalks"), ("QuarterWalks$Ways", 57, "QuarterWalks", "DY", "[I", "QuarterWalks")]
def str_r : List (String × Nat × String × Nat) := [("QuarterWalks$Tape", 82, "n nee ses sww nw", 11), ("QuarterWalks$StepSet", 50, "n nee ses sww nw", 11), ("QuarterWalks$StepSet", 42, "; from ", 10), ("QuarterWalksModel", 114, "n", 0), ("QuarterWalksModel", 120, "ne", 1), ("QuarterWalksModel", 122, "e", 2), ("QuarterWalksModel", 124, "se", 3), ("QuarterWalksModel", 126, "s", 4), ("QuarterWalksModel", 128, "sw", 5), ("QuarterWalksModel", 130, "w", 6), ("QuarterWalksModel", 132, "nw", 7), ("QuarterWalksModel", 144, "from", 8), ("QuarterWalksModel", 420, " ", 9), ("QuarterWalksModel", 432, "; from ", 10)]
def str_len : List Nat := [1, 2, 1, 2, 1, 2, 1, 2, 4, 1, 7, 16]
def str_byt : List (List Int32) := [[110], [110, 101], [101], [115, 101], [115], [115, 119], [119], [110, 119], [102, 114, 111, 109], [32], [59, 32, 102, 114, 111, 109, 32], [110, 32, 110, 101, 101, 32, 115, 101, 115, 32, 115, 119, 119, 32, 110, 119]]
/-- what holds of the launch's tables and of the cells below b0 -/
def hE (D : va_G) (G : Nat → Nat) (b0 : Nat) (U : State) (H : Heap) : Prop :=
  va_K D vwCl (hgy G) U ∧ va_Z "java/lang/String" "COMPACT_STRINGS" "Z" (.int 1) (hA b0) U H ∧
  (∀ q ∈ nest_m, va_Nw (.methodLinkNest q.1 q.2.1 q.2.2.1 q.2.2.2) U) ∧ (∀ q ∈ nest_f, va_Nw (.fieldLinkNest q.1 q.2.1 q.2.2.1 q.2.2.2.1 q.2.2.2.2.1 q.2.2.2.2.2) U) ∧
  va_AO "QuarterWalks$Shelf" U ∧ va_AO "QuarterWalks$StepSet" U ∧ va_AOA .int U ∧ va_AOA .long U ∧
  (∀ q ∈ str_r, vk_R q.1 q.2.1 q.2.2.1 (G (20 + q.2.2.2)) U) ∧ vk_S 12 str_len str_byt (fun i => G (20 + i)) (fun i => G (40 + i)) (hA b0) U H ∧
  vx_Zq Bundle.tN "UNASSIGNED_STACK" Bundle.steD (hA b0) U H ∧ vx_Zq Bundle.tN "SUPPRESSED_SENTINEL" Bundle.listD (hA b0) U H
theorem hE.warm {D : va_G} {G : Nat → Nat} {b0 : Nat} {s U : State} {H : Heap} (hW : s.WarmedH U.vm) (h : hE D G b0 s H) : hE D G b0 U H := by
  obtain ⟨h1, h2, h3, h4, h5, h6, h7, h8, h9, h10, h11, h12⟩ := h
  exact ⟨h1.moved hW.alike, h2.moved hW.alike, fun q hq => (h3 q hq).warmM hW, fun q hq => (h4 q hq).warmF hW, h5.moved hW.alike, h6.moved hW.alike, h7.moved hW.alike, h8.moved hW.alike, fun q hq => (h9 q hq).warm hW, h10.moved hW.alike, h11.moved hW.alike, h12.moved hW.alike⟩
theorem hE.same {D : va_G} {G : Nat → Nat} {b0 : Nat} {s U : State} {H : Heap} (hv : U.vm = s.vm) (h : hE D G b0 s H) : hE D G b0 U H := by
  have ha : s.vm.Alike U.vm := by rw [hv]; exact Vm.Alike.refl s.vm
  obtain ⟨h1, h2, h3, h4, h5, h6, h7, h8, h9, h10, h11, h12⟩ := h
  exact ⟨h1.moved ha, h2.moved ha, fun q hq => (h3 q hq).same rfl hv.symm, fun q hq => (h4 q hq).same rfl hv.symm, h5.moved ha, h6.moved ha, h7.moved ha, h8.moved ha, fun q hq => (h9 q hq).same hv, h10.moved ha, h11.moved ha, h12.moved ha⟩
theorem hE.kept {D : va_G} {G : Nat → Nat} {b0 : Nat} {s : State} {H H1 : Heap} (hq : ∀ a : Nat, a < H.size → ¬ hA b0 a → H1[a]? = H[a]?) (h : hE D G b0 s H) : hE D G b0 s H1 := by
  obtain ⟨h1, h2, h3, h4, h5, h6, h7, h8, h9, h10, h11, h12⟩ := h
  exact ⟨h1, h2.kept hq, h3, h4, h5, h6, h7, h8, h9, h10.kept hq, h11.kept hq, h12.kept hq⟩
def hPre (D : va_G) (G : Nat → Nat) (b0 : Nat) (f : hM) (U : State) : Prop := hP D f U.heap ∧ (∀ a e, f a = some e → b0 ≤ a) ∧ b0 ≤ U.heap.size ∧ hE D G b0 U U.heap
def hPost (D : va_G) (b0 : Nat) (f : hM) (t : State) : Prop := hP D f t.heap ∧ ∀ a e, f a = some e → b0 ≤ a
/-- the world inside a method -/
def hw (D : va_G) (b0 : Nat) (H0 : Heap) (f : hM) (H : Heap) (locs : List Loc) : Prop := hP D f H ∧ (∀ a e, f a = some e → b0 ≤ a) ∧ va_S (hA b0) H0 H locs ∧ b0 ≤ H0.size
/-- the context inside a method -/
def hC (p : Program) (s : State) (m : MethodId) (args : Array Value) (meth : Method) (c : Code) (cc : ByteArray) (nL : Nat) (own : String) (D : va_G) (G : Nat → Nat) (b0 : Nat) : Prop :=
  p.tables.exec = Jvm.exec ∧ c.code = cc ∧ c.maxLocals = nL ∧ s.vm.findClass own = some m.cls ∧ (∀ w ∈ wAll, w.before args s = true) ∧ hE D G b0 s s.heap ∧ meth.locks = false
theorem hP.one {D : va_G} {f : hM} {H : Heap} (h : hP D f H) {a : Nat} {e : va_E} (ha : f a = some e) : va_P D vwCl [(a, e)] H := fun k q hk => by
  match k, hk with
  | 0, hk => cases hk; exact h a e ha
  | k + 1, hk => simp at hk
theorem hP.lt {D : va_G} {f : hM} {H : Heap} (h : hP D f H) {a : Nat} {e : va_E} (ha : f a = some e) : a < H.size := (h a e ha).lt
theorem hP.up {D : va_G} {f : hM} {H H1 : Heap} (h : hP D f H) {a : Nat} {e : va_E} (he : va_at D vwCl (a, e) H1) (oq : ∀ q : Nat, q ≠ a → H1[q]? = H[q]?) : hP D (hu f a e) H1 := fun b x hb => by
  by_cases hba : b = a
  · subst hba
    rw [hu_self] at hb
    cases hb
    exact he
  · rw [hu_ne hba] at hb
    exact (h b x hb).kept (oq b hba)
theorem hw.up {D : va_G} {b0 : Nat} {H0 : Heap} {f : hM} {H H1 : Heap} {locs : List Loc} (h : hw D b0 H0 f H locs) {a k : Nat} {e0 e : va_E} (ha : f a = some e0) (he : va_at D vwCl (a, e) H1) (z : H1.size = H.size) (oq : ∀ q : Nat, q ≠ a → H1[q]? = H[q]?) : hw D b0 H0 (hu f a e) H1 (locs ++ [⟨a, k⟩]) := by
  obtain ⟨h1, h2, h3, h4⟩ := h
  refine ⟨h1.up he oq, fun b x hb => ?_, h3.put z oq (h2 a e0 ha), h4⟩
  by_cases hba : b = a
  · rw [hba]; exact h2 a e0 ha
  · rw [hu_ne hba] at hb; exact h2 b x hb
theorem hw.new {D : va_G} {b0 : Nat} {H0 : Heap} {f : hM} {H H1 : Heap} {locs : List Loc} (h : hw D b0 H0 f H locs) {e : va_E} (he : va_at D vwCl (H.size, e) H1) (z : H.size ≤ H1.size) (oq : ∀ q : Nat, q < H.size → H1[q]? = H[q]?) : hw D b0 H0 (hu f H.size e) H1 locs ∧ f H.size = none := by
  obtain ⟨h1, h2, h3, h4⟩ := h
  have hn : f H.size = none := by
    cases hf : f H.size with
    | none => rfl
    | some x => exact absurd (h1.lt hf) (Nat.lt_irrefl _)
  refine ⟨⟨fun b x hb => ?_, fun b x hb => ?_, ⟨Nat.le_trans h3.1 z, fun q q1 q2 => (oq q (Nat.lt_of_lt_of_le q1 h3.1)).trans (h3.2.1 q q1 q2), h3.2.2⟩, h4⟩, hn⟩
  · by_cases hba : b = H.size
    · subst hba; rw [hu_self] at hb; cases hb; exact he
    · rw [hu_ne hba] at hb; exact (h1 b x hb).kept (oq b (h1.lt hb))
  · by_cases hba : b = H.size
    · rw [hba]; exact Nat.le_trans h4 h3.1
    · rw [hu_ne hba] at hb; exact h2 b x hb
/-- contracts: int, long, nothing, reference -/
abbrev mI (l : Launch) (y : MethodName) (cc : ByteArray) (n : Nat) (ty : FieldType) (rm : Room) (D : va_G) (G : Nat → Nat) (b0 : Nat) (f : hM) (av : List Value) (post : Int32 → hM → Prop) : Prop :=
  Met l y (Cond.code y cc n (some ty) :: wAll) rm (va_Pc av (hPre D G b0 f)) (va_Qi post (hPost D b0) (hA b0)) rm.cells rm.slots (hA b0)
abbrev mL (l : Launch) (y : MethodName) (cc : ByteArray) (n : Nat) (rm : Room) (D : va_G) (G : Nat → Nat) (b0 : Nat) (f : hM) (av : List Value) (post : Int64 → hM → Prop) : Prop :=
  Met l y (Cond.code y cc n (some .long) :: wAll) rm (va_Pc av (hPre D G b0 f)) (va_Ql post (hPost D b0) (hA b0)) rm.cells rm.slots (hA b0)
abbrev mV (l : Launch) (y : MethodName) (cc : ByteArray) (n : Nat) (rm : Room) (D : va_G) (G : Nat → Nat) (b0 : Nat) (f : hM) (av : List Value) (post : hM → Prop) : Prop :=
  Met l y (Cond.code y cc n none :: wAll) rm (va_Pc av (hPre D G b0 f)) (va_Qv post (hPost D b0) (hA b0)) rm.cells rm.slots (hA b0)
abbrev mQ (l : Launch) (y : MethodName) (cc : ByteArray) (n : Nat) (ty : FieldType) (rm : Room) (D : va_G) (G : Nat → Nat) (b0 : Nat) (f : hM) (av : List Value) (post : Option Nat → hM → Prop) : Prop :=
  Met l y (Cond.code y cc n (some ty) :: wAll) rm (va_Pc av (hPre D G b0 f)) (va_Qq post (hPost D b0) (hA b0)) rm.cells rm.slots (hA b0)
theorem met_of {l : Launch} {y : MethodName} {cc : ByteArray} {n : Nat} {ret : Option FieldType} {rm : Room} {D : va_G} {G : Nat → Nat} {b0 : Nat} {f : hM} {av : List Value} {Qc : Array Value → State → Outcome → State → Prop} {own : String} (hy : plainName y.cls = true) (ho : y.cls = own) (hlen : (lg_sl av).length ≤ n)
    (body : ∀ p e s m below meth c ls, hC p s m av.toArray meth c cc n own D G b0 → meth.sig.returnType = ret → meth.name = y.name → lv_has ls n (lv_args 0 av) → hw D b0 s.heap f s.heap [] → W p l e rm s m av.toArray below meth c s.heap [] 0 0 (MQ below Qc av.toArray s rm.cells rm.slots (hA b0)) (F0 m 0 ls [])) :
    Met l y (Cond.code y cc n ret :: wAll) rm (va_Pc av (hPre D G b0 f)) Qc rm.cells rm.slots (hA b0) := by
  refine Met.ofW (cc := cc) (maxL := n) (ret := ret) hy rfl ?_
  intro p e s m args below meth c s₁ B hml hv
  obtain ⟨rfl, hP0, hb, hz, hE0⟩ := hv
  have hts := atoms_spec (ws := Cond.code y cc n ret :: wAll) B.pre
  have hown : s.vm.findClass y.cls = some m.cls := findClass_of_methodNamed B.named
  rw [lg_entry_eq]
  refine body p e s m below meth c _ ⟨B.exec, B.bytes, hml, by rw [← ho]; exact hown, fun w hw => hts w (List.mem_cons_of_mem _ hw), hE0, B.notSynchronized⟩ B.returns ?_ (lv_entry av hlen) ⟨hP0, hb, va_S.rf, hz⟩
  exact (name_of_methodNamed B.named B.method).1
section HRows
variable {p : Program} {l : Launch} {e : Env} {R : Room} {s : State} {m : MethodId} {args : Array Value} {below : List Frame} {meth : Method} {c : Code} {H : Heap} {locs : List Loc} {cells slots : Nat} {Q : State → Prop}
variable {cc : ByteArray} {nL pc : Nat} {ls : Array Slot} {rest : List Value} {D : va_G} {G : Nat → Nat} {b0 a : Nat} {f : hM} {own : String} {H0 : Heap}
/-- a field's links: class ci of vwCl, place k -/
def fl (own : String) (index ci k : Nat) : Prop := ∃ (C : String) (T : u_T) (N : Nat), vwCl[ci]? = some (C, T, N) ∧ (∀ w ∈ u_ws C T N, w ∈ wAll) ∧ k < N ∧ Cond.fieldLink own index (T k).1 (T k).2.1 (T k).2.2.1 ∈ wAll
theorem q_get (C : hC p s m args meth c cc nL own D G b0) (h : hw D b0 H0 f H locs) {index ci k : Nat} {fs : List Value} {v : Value} (hf : f a = some (.inr (ci, fs))) (F : fl own index ci k) (hv : fs[k]? = some v) (hdg : decode cc pc = .ok (.getfield index, 3)) (kk : W p l e R s m args below meth c H locs cells slots Q (F0 m (pc + 3) ls (v :: rest))) : W p l e R s m args below meth c H locs cells slots Q (F0 m pc ls (.ref a :: rest)) := by
  obtain ⟨hx, hb, hml, hown, hts, hE0, -⟩ := C
  obtain ⟨Cn, T, N, hc, hin, hk, hlk⟩ := F
  exact va_get (D := D) (ws := [(a, .inr (ci, fs))]) hx hb hts hin hown hE0.1 (h.1.one hf) 0 rfl hc k hk (hts _ hlk) (fun _ h9 => h9) hv hdg kk
/-- a field that may be written -/
def flw (own : String) (index ci k : Nat) (ty : FieldType) : Prop := ∃ (C : String) (T : u_T) (N : Nat) (ty0 : Nat → FieldType), vwCl[ci]? = some (C, T, N) ∧ (∀ w ∈ u_ws C T N, w ∈ wAll) ∧ k < N ∧ Cond.fieldLink own index (T k).1 (T k).2.1 (T k).2.2.1 ∈ wAll ∧ (∀ k, k < N → parseFieldDescriptor (T k).2.2.1 = some (ty0 k)) ∧ (∀ a, a < N → ∀ b, b < N → a ≠ b → (T a).2.1 ≠ (T b).2.1) ∧ parseFieldDescriptor (T k).2.2.1 = some ty ∧ ((T k).2.2.2 = false ∨ ((T k).2.2.2 = true ∧ (T k).1 = own))
theorem q_put (C : hC p s m args meth c cc nL own D G b0) (h : hw D b0 H0 f H locs) {index ci k : Nat} {fs : List Value} {v : Value} {ty : FieldType} (hf : f a = some (.inr (ci, fs))) (F : flw own index ci k ty) (hini : meth.name = "<init>" ∨ (∃ (T : u_T) (Cn : String) (N : Nat), vwCl[ci]? = some (Cn, T, N) ∧ (T k).2.2.2 = false)) (hn : narrow ty v = v) (hfit : fits ty v = true) (hl : k < fs.length) (hdg : decode cc pc = .ok (.putfield index, 3))
    (kk : ∀ (H1 : Heap) (locs1 : List Loc), hw D b0 H0 (hu f a (.inr (ci, fs.set k v))) H1 locs1 → W p l e R s m args below meth c H1 locs1 cells slots Q (F0 m (pc + 3) ls rest)) : W p l e R s m args below meth c H locs cells slots Q (F0 m pc ls (v :: .ref a :: rest)) := by
  obtain ⟨hx, hb, hml, hown, hts, hE0, -⟩ := C
  obtain ⟨Cn, T, N, ty0, hc, hin, hk, hlink, hty, hnm, hd, hfin⟩ := F
  have hK := hE0.1
  have hap := va_apart (own := own) hts hin ty0 hty hnm hK hc
  obtain ⟨r, h1, cell, q1, q2, q3, q4⟩ := h.1 a _ hf
  have hr : r = (Cn, T, N) := Option.some.inj (h1.symm.trans hc)
  subst hr
  obtain ⟨hS, hfc, kC, hkC, hkind⟩ := hK.1 ci _ hc
  obtain ⟨cf, kf, fi, fd, hi, hsl⟩ := hS k hk
  have hst := (u_facts hfc hkC (u_lays hts hin hk) hi).1
  have hlay := hts _ (hin _ (u_in_lay hk))
  unfold u_lay at hlay
  by_cases hfb : (T k).2.2.2 = true
  · rw [if_pos hfb] at hlay
    have hdecl : (T k).1 = own := by
      rcases hfin with q | q
      · rw [hfb] at q; cases q
      · exact q.2
    have hin2 : meth.name = "<init>" := by
      rcases hini with q | ⟨T', Cn', N', q1, q2⟩
      · exact q
      · have := Option.some.inj (q1.symm.trans hc)
        cases this
        rw [hfb] at q2; cases q2
    have hcf : m.cls = cf := by
      obtain ⟨_, _, c', _, _, _, -, -, hf', -, -, -, hown2, -⟩ := Cond.laysFinal_spec hlay
      have e1 : c' = cf := by have := hi.symm.trans hf'; simp at this; exact this.1.symm
      rw [hdecl] at hown2
      rw [← e1]; exact Option.some.inj (hown.symm.trans hown2)
    have h6 := u_fits hfc hkC hkind (Or.inr hlay) hi hd hn hfit
    refine W.putFinK hx hb hown (hts _ hlink) hi hst hcf hin2 (by rw [q2]; exact h6) q1 q3 (by rw [hsl]; exact k2_hasslot (q4 k hk)) rfl rfl hdg fun H' e1 e2 e3 => ?_
    rw [hsl] at e1 ⊢
    exact kk H' _ (h.up hf ⟨_, hc, t_OB.to (V := updV (vp_V fs) k v) ⟨_, e1, q2, q3, t_set q4 hap hk v⟩ (fun j _ => vp_updV_set hl v j)⟩ e2 e3)
  · rw [if_neg hfb] at hlay
    have h6 := u_store hfc hkC hkind hlay hi hd hn hfit
    refine W.putK hx hb (f := fd) ⟨hown, hts _ hlink, ⟨_, _, _, hi⟩, hst⟩ (by rw [q2]; exact h6) q1 q3 (by rw [hsl]; exact k2_hasslot (q4 k hk)) rfl rfl hdg fun H' e1 e2 e3 => ?_
    rw [hsl] at e1 ⊢
    exact kk H' _ (h.up hf ⟨_, hc, t_OB.to (V := updV (vp_V fs) k v) ⟨_, e1, q2, q3, t_set q4 hap hk v⟩ (fun j _ => vp_updV_set hl v j)⟩ e2 e3)
theorem hgy1 (G : Nat → Nat) : (hgy G)[1]? = some (G 1, .int) := rfl
theorem q_iald (C : hC p s m args meth c cc nL own D G b0) (h : hw D b0 H0 f H locs) {n : Nat} {r : Nat → Int32} (hf : f a = some (.inl (G 1, n, .inl r))) {i : Int32} (hin : vp_in i n) (hdg : decode cc pc = .ok (.iaload, 1)) (kk : W p l e R s m args below meth c H locs cells slots Q (F0 m (pc + 1) ls (.int (r i.toNatClampNeg) :: rest))) : W p l e R s m args below meth c H locs cells slots Q (F0 m pc ls (.int i :: .ref a :: rest)) :=
  va_iald (ws := [(a, .inl (G 1, n, .inl r))]) C.1 C.2.1 C.2.2.2.2.2.1.1 (h.1.one hf) 0 1 rfl rfl hin hdg kk
theorem q_bald (C : hC p s m args meth c cc nL own D G b0) (h : hw D b0 H0 f H locs) {n : Nat} {r : Nat → Int32} (hf : f a = some (.inl (G 0, n, .inl r))) {i : Int32} (hin : vp_in i n) (hdg : decode cc pc = .ok (.baload, 1)) (kk : W p l e R s m args below meth c H locs cells slots Q (F0 m (pc + 1) ls (.int (r i.toNatClampNeg) :: rest))) : W p l e R s m args below meth c H locs cells slots Q (F0 m pc ls (.int i :: .ref a :: rest)) :=
  va_bald (ws := [(a, .inl (G 0, n, .inl r))]) C.1 C.2.1 C.2.2.2.2.2.1.1 (h.1.one hf) 0 0 rfl rfl hin hdg kk
theorem q_lald (C : hC p s m args meth c cc nL own D G b0) (h : hw D b0 H0 f H locs) {n : Nat} {r : Nat → Int64} (hf : f a = some (.inl (G 2, n, .inr (.inl r)))) {i : Int32} (hin : vp_in i n) (hdg : decode cc pc = .ok (.laload, 1)) (kk : W p l e R s m args below meth c H locs cells slots Q (F0 m (pc + 1) ls (.long (r i.toNatClampNeg) :: rest))) : W p l e R s m args below meth c H locs cells slots Q (F0 m pc ls (.int i :: .ref a :: rest)) :=
  va_lald (ws := [(a, .inl (G 2, n, .inr (.inl r)))]) C.1 C.2.1 C.2.2.2.2.2.1.1 (h.1.one hf) 0 2 rfl rfl hin hdg kk
theorem q_aald (C : hC p s m args meth c cc nL own D G b0) (h : hw D b0 H0 f H locs) (t0 : Nat) {cA : ClassId} {Cn : String} (ht : (hgy G)[t0]? = some (cA, .object Cn)) {n : Nat} {r : Nat → Option Nat} (hf : f a = some (.inl (cA, n, .inr (.inr (.inr (.inr r)))))) {i : Int32} (hin : vp_in i n) (hdg : decode cc pc = .ok (.aaload, 1)) (kk : W p l e R s m args below meth c H locs cells slots Q (F0 m (pc + 1) ls (va_rf (r i.toNatClampNeg) :: rest))) : W p l e R s m args below meth c H locs cells slots Q (F0 m pc ls (.int i :: .ref a :: rest)) :=
  va_aldq (ws := [(a, .inl (cA, n, .inr (.inr (.inr (.inr r)))))]) C.1 C.2.1 C.2.2.2.2.2.1.1 (h.1.one hf) 0 t0 rfl ht hin hdg kk
theorem q_alen (C : hC p s m args meth c cc nL own D G b0) (h : hw D b0 H0 f H locs) (t0 : Nat) {cA : ClassId} {ty : FieldType} (ht : (hgy G)[t0]? = some (cA, ty)) {x : vp_A} (hf : f a = some (.inl (cA, x))) {v : Int32} (hv : Int32.ofNat x.1 = v) (hdg : decode cc pc = .ok (.arraylength, 1)) (kk : W p l e R s m args below meth c H locs cells slots Q (F0 m (pc + 1) ls (.int v :: rest))) : W p l e R s m args below meth c H locs cells slots Q (F0 m pc ls (.ref a :: rest)) :=
  va_alen (ws := [(a, .inl (cA, x))]) C.1 C.2.1 C.2.2.2.2.2.1.1 (h.1.one hf) 0 t0 rfl ht hv hdg kk
theorem q_iast (C : hC p s m args meth c cc nL own D G b0) (h : hw D b0 H0 f H locs) {n : Nat} {r : Nat → Int32} (hf : f a = some (.inl (G 1, n, .inl r))) {i x : Int32} (hin : vp_in i n) (hdg : decode cc pc = .ok (.iastore, 1)) (kk : ∀ (H1 : Heap) (locs1 : List Loc), hw D b0 H0 (hu f a (.inl (G 1, n, .inl (upd r i.toNatClampNeg x)))) H1 locs1 → W p l e R s m args below meth c H1 locs1 cells slots Q (F0 m (pc + 1) ls rest)) : W p l e R s m args below meth c H locs cells slots Q (F0 m pc ls (.int x :: .int i :: .ref a :: rest)) := by
  refine W.iast C.1 C.2.1 (h.1 a _ hf) ((C.2.2.2.2.2.1.1.2 1 _ (hgy1 G)).1 n (fun j => .int (r j))) (fun q => by cases q) (by show ¬ (i < 0 ∨ (arrV _ _ _).slots.size ≤ _); rw [arrV_size]; exact hin) rfl rfl hdg fun H1 e z oq => ?_
  refine kk H1 _ (h.up hf ?_ z oq)
  show H1[a]? = some (vp_cell _ _)
  rw [e, vp_cell_i, vp_cell_i, arrV_store]
  congr 2
  funext q
  by_cases hq : q = i.toNatClampNeg
  · subst hq; simp [updV, upd]
  · simp [updV, upd, hq]
theorem q_bast (C : hC p s m args meth c cc nL own D G b0) (h : hw D b0 H0 f H locs) {n : Nat} {r : Nat → Int32} (hf : f a = some (.inl (G 0, n, .inl r))) {i x : Int32} (hin : vp_in i n) (hdg : decode cc pc = .ok (.bastore, 1)) (kk : ∀ (H1 : Heap) (locs1 : List Loc), hw D b0 H0 (hu f a (.inl (G 0, n, .inl (upd r i.toNatClampNeg (vp_nar .byte x))))) H1 locs1 → W p l e R s m args below meth c H1 locs1 cells slots Q (F0 m (pc + 1) ls rest)) : W p l e R s m args below meth c H locs cells slots Q (F0 m pc ls (.int x :: .int i :: .ref a :: rest)) := by
  refine W.bast C.1 C.2.1 (h.1 a _ hf) ((C.2.2.2.2.2.1.1.2 0 _ rfl).1 n (fun j => .int (r j))) (fun q => by cases q) (by show ¬ (i < 0 ∨ (arrV _ _ _).slots.size ≤ _); rw [arrV_size]; exact hin) rfl rfl hdg fun H1 e z oq => ?_
  refine kk H1 _ (h.up hf ?_ z oq)
  show H1[a]? = some (vp_cell _ _)
  rw [e, vp_cell_i, vp_cell_i, arrV_store]
  congr 2
  funext q
  by_cases hq : q = i.toNatClampNeg
  · subst hq; simp [updV, upd, vp_nar]; try rfl
  · simp [updV, upd, hq]
theorem q_last (C : hC p s m args meth c cc nL own D G b0) (h : hw D b0 H0 f H locs) {n : Nat} {r : Nat → Int64} (hf : f a = some (.inl (G 2, n, .inr (.inl r)))) {i : Int32} {x : Int64} (hin : vp_in i n) (hdg : decode cc pc = .ok (.lastore, 1)) (kk : ∀ (H1 : Heap) (locs1 : List Loc), hw D b0 H0 (hu f a (.inl (G 2, n, .inr (.inl (vp_updL r i.toNatClampNeg x))))) H1 locs1 → W p l e R s m args below meth c H1 locs1 cells slots Q (F0 m (pc + 1) ls rest)) : W p l e R s m args below meth c H locs cells slots Q (F0 m pc ls (.long x :: .int i :: .ref a :: rest)) := by
  refine W.last C.1 C.2.1 (h.1 a _ hf) ((C.2.2.2.2.2.1.1.2 2 _ rfl).1 n (fun j => .long (r j))) (fun q => by cases q) (by show ¬ (i < 0 ∨ (arrV _ _ _).slots.size ≤ _); rw [arrV_size]; exact hin) rfl rfl hdg fun H1 e z oq => ?_
  refine kk H1 _ (h.up hf ?_ z oq)
  show H1[a]? = some (vp_cell _ _)
  rw [e, vp_cell_l, vp_cell_l, arrV_store]
  congr 2
  funext q
  by_cases hq : q = i.toNatClampNeg
  · subst hq; simp [updV, vp_updL]
  · simp [updV, vp_updL, hq]
theorem q_aast (C : hC p s m args meth c cc nL own D G b0) (h : hw D b0 H0 f H locs) (t0 ci : Nat) {cA : ClassId} {rr : vw_C} (ht : (hgy G)[t0]? = some (cA, .object rr.1)) (hc : vwCl[ci]? = some rr) {n v : Nat} {vs : List Value} {r : Nat → Option Nat} (hf : f a = some (.inl (cA, n, .inr (.inr (.inr (.inr r)))))) (hv : f v = some (.inr (ci, vs))) {i : Int32} (hin : vp_in i n) (hdg : decode cc pc = .ok (.aastore, 1)) (kk : ∀ (H1 : Heap) (locs1 : List Loc), hw D b0 H0 (hu f a (.inl (cA, n, .inr (.inr (.inr (.inr (va_up r i.toNatClampNeg (some v)))))))) H1 locs1 → W p l e R s m args below meth c H1 locs1 cells slots Q (F0 m (pc + 1) ls rest)) : W p l e R s m args below meth c H locs cells slots Q (F0 m pc ls (.ref v :: .int i :: .ref a :: rest)) := by
  have hK := C.2.2.2.2.2.1.1
  have hlt : i.toNatClampNeg < n := Nat.not_le.mp fun q => hin (Or.inr q)
  have h0 : ¬ i < 0 := fun q => hin (Or.inl q)
  obtain ⟨r', hr', cellV, g1, g2, g3, -⟩ := h.1 v _ hv
  have hcls := (hK.1 ci rr hc).2
  obtain ⟨kA, comp, k1, k2, k3, -⟩ := (hK.2 t0 _ ht).2
  have hcomp : comp = D.1 ci := Option.some.inj (k3.symm.trans hcls.1)
  subst hcomp
  obtain ⟨kC, hkC, -⟩ := hcls.2
  refine W.aast C.1 C.2.1 (h.1 a _ hf) (fun q h => by cases h) (fun h => by cases h) k1 k2 rfl hkC ⟨h0, by show _ < (arrV _ _ _).slots.size; rw [arrV_size]; exact hlt⟩ g1 (fun q h => by rw [g3] at h; cases h) (by rw [g2]; exact hkC) (by rw [g2]; exact va_assign hcls) rfl rfl hdg fun H1 e z oq => ?_
  refine kk H1 _ (h.up hf ?_ z oq)
  show H1[a]? = some (vp_cell _ _)
  rw [e, vp_cell_q, vp_cell_q, arrV_store]
  congr 2
  funext q
  by_cases hq : q = i.toNatClampNeg
  · subst hq; simp [updV, va_up, va_rf]
  · simp [updV, va_up, hq]
theorem q_aastN (C : hC p s m args meth c cc nL own D G b0) (h : hw D b0 H0 f H locs) (t0 : Nat) {cA : ClassId} {Cn : String} (ht : (hgy G)[t0]? = some (cA, .object Cn)) {n : Nat} {r : Nat → Option Nat} (hf : f a = some (.inl (cA, n, .inr (.inr (.inr (.inr r)))))) {i : Int32} (hin : vp_in i n) (hdg : decode cc pc = .ok (.aastore, 1)) (kk : ∀ (H1 : Heap) (locs1 : List Loc), hw D b0 H0 (hu f a (.inl (cA, n, .inr (.inr (.inr (.inr (va_up r i.toNatClampNeg none))))))) H1 locs1 → W p l e R s m args below meth c H1 locs1 cells slots Q (F0 m (pc + 1) ls rest)) : W p l e R s m args below meth c H locs cells slots Q (F0 m pc ls (.null :: .int i :: .ref a :: rest)) := by
  refine va_WaastN (C := Cn) C.1 C.2.1 (h.1 a _ hf) ((C.2.2.2.2.2.1.1.2 t0 _ ht).1 n (fun j => va_rf (r j))) (fun h => by cases h) (by show ¬ (i < 0 ∨ (arrV _ _ _).slots.size ≤ _); rw [arrV_size]; exact hin) rfl rfl hdg fun H1 e z oq => ?_
  refine kk H1 _ (h.up hf ?_ z oq)
  show H1[a]? = some (vp_cell _ _)
  rw [e, vp_cell_q, vp_cell_q, arrV_store]
  congr 2
  funext q
  by_cases hq : q = i.toNatClampNeg
  · subst hq; simp [updV, va_up, va_rf]
  · simp [updV, va_up, hq]
/-- a class that can be made -/
def nw (own : String) (index ci N : Nat) (fs : List Value) : Prop := ∃ (C : String) (T : u_T) (ty0 : Nat → FieldType), vwCl[ci]? = some (C, T, N) ∧ (∀ w ∈ u_ws C T N, w ∈ wAll) ∧ (∀ k, k < N → parseFieldDescriptor (T k).2.2.1 = some (ty0 k)) ∧ Cond.classLink own index C ∈ wAll ∧ Cond.instantiable C N ∈ wAll ∧ Cond.initialized C ∈ wAll ∧ ∀ j, j < N → defaultValue (ty0 j) = vp_V fs j
theorem q_new (C : hC p s m args meth c cc nL own D G b0) (h : hw D b0 H0 f H locs) {index ci N : Nat} {fs : List Value} (F : nw own index ci N fs) (hcells : cells + 1 ≤ R.cells) (hslots : slots + N ≤ R.slots) (hdg : decode cc pc = .ok (.new index, 3))
    (kk : ∀ (q : Nat) (H1 : Heap), f q = none → hw D b0 H0 (hu f q (.inr (ci, fs))) H1 locs → W p l e R s m args below meth c H1 locs (cells + 1) (slots + N) Q (F0 m (pc + 3) ls (.ref q :: rest))) : W p l e R s m args below meth c H locs cells slots Q (F0 m pc ls rest) := by
  obtain ⟨hx, hb, hml, hown, hts, hE0, -⟩ := C
  obtain ⟨Cn, T, ty0, hc, hin, hty, w1, w2, w3, hfs⟩ := F
  have hKn := hE0.1.1 ci _ hc
  refine W.newcK hx hb hown (hts _ w1) (hts _ w2) (hts _ w3) rfl hdg hcells hslots hKn.2.1 rfl fun H1 kC hkC e1 z1 o1 => ?_
  obtain ⟨h1, h2⟩ := h.new (H1 := H1) (e := .inr (ci, fs)) ⟨_, hc, (u_born ty0 hts hin hKn hkC e1 hty).to hfs⟩ (by omega) o1
  exact kk H.size H1 h2 h1
theorem q_newa (C : hC p s m args meth c cc nL own D G b0) (h : hw D b0 H0 f H locs) {atype : ArrayType} (t0 : Nat) {cA : ClassId} {ty : FieldType} (hty : newarray.typeOf atype = ty) (ht : (hgy G)[t0]? = some (cA, ty)) (hprim : refKind ty = false) (harr : Cond.arrayClass ty ∈ wAll) {n : Int32} {N' : Nat} {a0 : vp_A} (ha : ∀ cA : ClassId, vp_cell cA a0 = arrV cA N' (fun _ => defaultValue ty)) (hn : ¬ n < 0) (hN : n.toNatClampNeg = N') (hbytes : N' * componentBytes ty ≤ 536870912) (hcells : cells + 1 ≤ R.cells) (hslots : slots + N' ≤ R.slots) (hdg : decode cc pc = .ok (.newarray atype, 2))
    (kk : ∀ (q : Nat) (H1 : Heap), f q = none → hw D b0 H0 (hu f q (.inl (cA, a0))) H1 locs → W p l e R s m args below meth c H1 locs (cells + 1) (slots + N') Q (F0 m (pc + 2) ls (.ref q :: rest))) : W p l e R s m args below meth c H locs cells slots Q (F0 m pc ls (.int n :: rest)) := by
  subst hty
  obtain ⟨hx, hb, hml, hown, hts, hE0, -⟩ := C
  refine va_newaK hx hb (hts _ harr) rfl hdg rfl hn hN hbytes hcells hslots rfl fun H1 cB e1 z1 o1 hAr hNm => ?_
  have hra := (hE0.1.2 t0 _ ht).2
  have hcb : cB = cA := by
    cases atype <;> exact Option.some.inj (hNm.symm.trans hra)
  subst hcb
  obtain ⟨h1, h2⟩ := h.new (H1 := H1) (e := .inl (cB, a0)) (by show H1[H.size]? = some (vp_cell _ _); rw [ha]; exact e1) (by omega) o1
  exact kk H.size H1 h2 h1
theorem q_newq (C : hC p s m args meth c cc nL own D G b0) (h : hw D b0 H0 f H locs) (t0 : Nat) {cA : ClassId} {Cn : String} {index : Nat} (ht : (hgy G)[t0]? = some (cA, .object Cn)) (hclink : Cond.classLink own index Cn ∈ wAll) (hover : va_AO Cn s) {n : Int32} {N' : Nat} (hn : ¬ n < 0) (hN : n.toNatClampNeg = N') (hbytes : N' * 4 ≤ 536870912) (hcells : cells + 1 ≤ R.cells) (hslots : slots + N' ≤ R.slots) (hdg : decode cc pc = .ok (.anewarray index, 3))
    (kk : ∀ (q : Nat) (H1 : Heap), f q = none → hw D b0 H0 (hu f q (.inl (cA, N', .inr (.inr (.inr (.inr (fun _ => none))))))) H1 locs → W p l e R s m args below meth c H1 locs (cells + 1) (slots + N') Q (F0 m (pc + 3) ls (.ref q :: rest))) : W p l e R s m args below meth c H locs cells slots Q (F0 m pc ls (.int n :: rest)) := by
  subst hN
  obtain ⟨hx, hb, hml, hown, hts, hE0, -⟩ := C
  refine W.anew hx hb hown (hts _ hclink) (va_AO.use hover) rfl hdg rfl hn hbytes hcells hslots fun cB kA comp f1 f2 f3 f4 => ?_
  have hra := (hE0.1.2 t0 _ ht).2
  obtain ⟨_, _, _, _, _, hra⟩ := hra
  have hcb : cB = cA := Option.some.inj (f1.symm.trans hra)
  subst hcb
  generalize hH1 : H.push ({ cls := cB, slots := Array.replicate n.toNatClampNeg .null, vm := .none } : Cell) = H1
  have z1 : H1.size = H.size + 1 := by rw [← hH1, Array.size_push]
  have e1 : H1[H.size]? = some (arrV cB n.toNatClampNeg (fun _ => .null)) := by rw [← hH1, Array.getElem?_push_size, ← arrV_new]
  have o1 : ∀ q : Nat, q < H.size → H1[q]? = H[q]? := fun q hq => by rw [← hH1, Array.getElem?_push, if_neg (Nat.ne_of_lt hq)]
  obtain ⟨h1, h2⟩ := h.new (H1 := H1) (e := .inl (cB, n.toNatClampNeg, .inr (.inr (.inr (.inr (fun _ => none)))))) (by show H1[H.size]? = some (vp_cell _ _); rw [vp_cell_q]; exact e1) (by omega) o1
  exact kk H.size H1 h2 h1
theorem q_iret (C : hC p s m args meth c cc nL own D G b0) (h : hw D b0 s.heap f H locs) (hr : meth.sig.returnType = some .int) {post : Int32 → hM → Prop} {v : Int32} {mc ms : Nat} (hp : post v f) (hc : cells ≤ mc) (hs : slots ≤ ms) (hdg : decode cc pc = .ok (.ireturn, 1)) : W p l e R s m args below meth c H locs cells slots (MQ below (va_Qi post (hPost D b0) (hA b0)) args s mc ms (hA b0)) (F0 m pc ls [.int v]) := by
  refine W.widen hc hs ?_
  exact W.iret C.1 C.2.1 hr (fun t ht hW => ⟨⟨v, f, rfl, hp, by rw [ht]; exact h.1, h.2.1⟩, h.2.2.1.F ht⟩) h.2.2.1.2.2 hdg C.2.2.2.2.2.2
theorem q_zret (C : hC p s m args meth c cc nL own D G b0) (h : hw D b0 s.heap f H locs) (hr : meth.sig.returnType = some .boolean) {post : Int32 → hM → Prop} {v : Int32} {mc ms : Nat} (hv : v = 0 ∨ v = 1) (hp : post v f) (hc : cells ≤ mc) (hs : slots ≤ ms) (hdg : decode cc pc = .ok (.ireturn, 1)) : W p l e R s m args below meth c H locs cells slots (MQ below (va_Qi post (hPost D b0) (hA b0)) args s mc ms (hA b0)) (F0 m pc ls [.int v]) := by
  refine W.widen hc hs ?_
  exact W.zret C.1 C.2.1 hr (by rcases hv with rfl | rfl <;> rfl) (fun t ht hW => ⟨⟨v, f, rfl, hp, by rw [ht]; exact h.1, h.2.1⟩, h.2.2.1.F ht⟩) h.2.2.1.2.2 hdg C.2.2.2.2.2.2
theorem q_bret (C : hC p s m args meth c cc nL own D G b0) (h : hw D b0 s.heap f H locs) {ty : FieldType} (hr : meth.sig.returnType = some ty) {post : Int32 → hM → Prop} {v : Int32} {mc ms : Nat} (hn : narrow ty (.int v) = .int v) (hp : post v f) (hc : cells ≤ mc) (hs : slots ≤ ms) (hdg : decode cc pc = .ok (.ireturn, 1)) : W p l e R s m args below meth c H locs cells slots (MQ below (va_Qi post (hPost D b0) (hA b0)) args s mc ms (hA b0)) (F0 m pc ls [.int v]) := by
  refine W.widen hc hs ?_
  exact W.zret C.1 C.2.1 hr hn (fun t ht hW => ⟨⟨v, f, rfl, hp, by rw [ht]; exact h.1, h.2.1⟩, h.2.2.1.F ht⟩) h.2.2.1.2.2 hdg C.2.2.2.2.2.2
theorem q_lret (C : hC p s m args meth c cc nL own D G b0) (h : hw D b0 s.heap f H locs) (hr : meth.sig.returnType = some .long) {post : Int64 → hM → Prop} {v : Int64} {mc ms : Nat} (hp : post v f) (hc : cells ≤ mc) (hs : slots ≤ ms) (hdg : decode cc pc = .ok (.lreturn, 1)) : W p l e R s m args below meth c H locs cells slots (MQ below (va_Ql post (hPost D b0) (hA b0)) args s mc ms (hA b0)) (F0 m pc ls [.long v]) := by
  refine W.widen hc hs ?_
  exact W.lret C.1 C.2.1 hr (fun t ht hW => ⟨⟨v, f, rfl, hp, by rw [ht]; exact h.1, h.2.1⟩, h.2.2.1.F ht⟩) h.2.2.1.2.2 hdg C.2.2.2.2.2.2
theorem q_vret (C : hC p s m args meth c cc nL own D G b0) (h : hw D b0 s.heap f H locs) (hr : meth.sig.returnType = none) {post : hM → Prop} {mc ms : Nat} (hp : post f) (hc : cells ≤ mc) (hs : slots ≤ ms) (hdg : decode cc pc = .ok (.return_, 1)) : W p l e R s m args below meth c H locs cells slots (MQ below (va_Qv post (hPost D b0) (hA b0)) args s mc ms (hA b0)) (F0 m pc ls []) := by
  refine W.widen hc hs ?_
  exact W.vret C.1 C.2.1 hr (fun t ht hW => ⟨⟨f, rfl, hp, by rw [ht]; exact h.1, h.2.1⟩, h.2.2.1.F ht⟩) h.2.2.1.2.2 hdg C.2.2.2.2.2.2
theorem q_aret (C : hC p s m args meth c cc nL own D G b0) (h : hw D b0 s.heap f H locs) {rt : FieldType} (hr : meth.sig.returnType = some rt) (hrt : (∃ n, rt = .object n) ∨ ∃ t, rt = .array t) {post : Option Nat → hM → Prop} {v : Option Nat} {mc ms : Nat} (hp : post v f) (hc : cells ≤ mc) (hs : slots ≤ ms) {w : Value} (hw0 : w = va_rf v) (hdg : decode cc pc = .ok (.areturn, 1)) : W p l e R s m args below meth c H locs cells slots (MQ below (va_Qq post (hPost D b0) (hA b0)) args s mc ms (hA b0)) (F0 m pc ls [w]) := by
  subst hw0
  refine W.widen hc hs ?_
  exact W.aret C.1 C.2.1 hr hrt (va_rf_or v) (fun t ht hW => ⟨⟨v, f, rfl, hp, by rw [ht]; exact h.1, h.2.1⟩, h.2.2.1.F ht⟩) h.2.2.1.2.2 hdg C.2.2.2.2.2.2
/-- the pre of a callee, out of the caller's world -/
theorem hPre_blind (av : List Value) : FrameBlind (va_Pc av (hPre D G b0 f)) := fun a U g mk q => by
  obtain ⟨q0, q1, q2, q3, q4⟩ := q
  exact ⟨q0, q1, q2, q3, hE.same (s := U) (U := U.calling g mk a) rfl q4⟩
theorem hPre_of (C : hC p s m args meth c cc nL own D G b0) (h : hw D b0 s.heap f H locs) (av : List Value) : ∀ U : State, U.heap = H → s.WarmedH U.vm → va_Pc av (hPre D G b0 f) av.toArray U := fun U hU hW => by
  refine ⟨rfl, by rw [hU]; exact h.1, h.2.1, by rw [hU]; exact Nat.le_trans h.2.2.2 h.2.2.1.1, ?_⟩
  rw [hU]
  exact (C.2.2.2.2.2.1.kept h.2.2.1.2.1).warm hW
theorem wAll_in {y : MethodName} {bytes : ByteArray} {n : Nat} {ret : Option FieldType} (h : Cond.code y bytes n ret ∈ wAll) : GoodIn wAll (Cond.code y bytes n ret :: wAll) := fun w hw => by
  rcases List.mem_cons.mp hw with rfl | q
  · exact ⟨h, wAll_good _ h⟩
  · exact ⟨q, wAll_good _ q⟩
/-- a method's own facts -/
def mk (y : MethodName) (n : Nat) : Prop := (y.cls ≠ "java/lang/invoke/MethodHandle" ∧ y.cls ≠ "java/lang/invoke/VarHandle" ∧ (parseMethodDescriptor y.desc).map (fun d => d.parameters.length) = some n) ∧ Cond.initialized y.cls ∈ wAll
theorem r_V (C : hC p s m args meth c cc nL own D G b0) (h : hw D b0 s.heap f H locs) {lv0 : List (Nat × Value)} (hl : lv_has ls nL lv0) {y : MethodName} {bytes : ByteArray} {maxL n ci : Nat} {ret : Option FieldType} {rm : Room} {index : Nat} {As : List Value} {Qc : Array Value → State → Outcome → State → Prop} {fs : List Value} {Cn : String} {T : u_T} {N : Nat} (hM : Met l y (Cond.code y bytes maxL ret :: wAll) rm (va_Pc (.ref a :: As) (hPre D G b0 f)) Qc rm.cells rm.slots (hA b0)) (hf : f a = some (.inr (ci, fs))) (hc : vwCl[ci]? = some (Cn, T, N)) (hcn : y.cls = Cn) (hmk : mk y n) (w1 : Cond.methodLink own index y ∈ wAll) (w2 : Cond.instanceMethod y ∈ wAll) (w3 : Cond.selects y.cls y y ∈ wAll) (w4 : Cond.code y bytes maxL ret ∈ wAll) (hR : rm.frames + 1 ≤ R.frames ∧ 8 + (maxL + 11) + rm.locals ≤ R.locals) (hn : As.length = n) (hrest : (rest.map fun v => v.category).sum ≤ 8) (hcs : cells + rm.cells ≤ R.cells ∧ slots + rm.slots ≤ R.slots) {st0 : List Value} (hst : st0 = As.reverse ++ .ref a :: rest) (hdg : decode cc pc = .ok (.invokevirtual index, 3)) :
    va_Run p l e R s m args below meth c H locs cells slots rm.cells rm.slots (F0 m pc ls st0) rest (Qc (Value.ref a :: As).toArray) (hA b0) := by
  subst hcn
  have hts := C.2.2.2.2.1
  exact va_runV (Ts := wAll) (own := own) (C := y.cls) (bytes := bytes) (maxL := maxL) (ret := ret) ⟨C.1, C.2.1, C.2.2.1, C.2.2.2.1, hts⟩ hM ⟨callB_of n hts (wAll_in w4) rfl rfl rfl (hts _ hmk.2) (hts _ w1) hmk.1 hR, hts _ w2, hts _ w3⟩ ⟨hPre_blind _, va_recv C.2.2.2.2.2.1.1 (h.1.one hf) hc (q0 := 0) rfl, hPre_of C h _⟩ rfl hn hl.1 hst (lv_room (m := m) (pc := pc) (ls := ls) (rest := st0) hrest) hdg hcs
theorem r_VK (C : hC p s m args meth c cc nL own D G b0) (h : hw D b0 s.heap f H locs) {lv0 : List (Nat × Value)} (hl : lv_has ls nL lv0) {y : MethodName} {bytes : ByteArray} {maxL n : Nat} {ret : Option FieldType} {rm : Room} {index : Nat} {As : List Value} {Qc : Array Value → State → Outcome → State → Prop} (hM : Met l y (Cond.code y bytes maxL ret :: wAll) rm (va_Pc (.ref a :: As) (hPre D G b0 f)) Qc rm.cells rm.slots (hA b0)) (hrec : ∃ cell : Cell, H[a]? = some cell ∧ cell.vm.isStatics = false ∧ s.vm.findClass y.cls = some cell.cls) (hmk : mk y n) (w1 : Cond.methodLink own index y ∈ wAll) (w2 : Cond.instanceMethod y ∈ wAll) (w3 : Cond.selects y.cls y y ∈ wAll) (w4 : Cond.code y bytes maxL ret ∈ wAll) (hR : rm.frames + 1 ≤ R.frames ∧ 8 + (maxL + 11) + rm.locals ≤ R.locals) (hn : As.length = n) (hrest : (rest.map fun v => v.category).sum ≤ 8) (hcs : cells + rm.cells ≤ R.cells ∧ slots + rm.slots ≤ R.slots) {st0 : List Value} (hst : st0 = As.reverse ++ .ref a :: rest) (hdg : decode cc pc = .ok (.invokevirtual index, 3)) :
    va_Run p l e R s m args below meth c H locs cells slots rm.cells rm.slots (F0 m pc ls st0) rest (Qc (Value.ref a :: As).toArray) (hA b0) := by
  have hts := C.2.2.2.2.1
  exact va_runV (Ts := wAll) (own := own) (C := y.cls) (bytes := bytes) (maxL := maxL) (ret := ret) ⟨C.1, C.2.1, C.2.2.1, C.2.2.2.1, hts⟩ hM ⟨callB_of n hts (wAll_in w4) rfl rfl rfl (hts _ hmk.2) (hts _ w1) hmk.1 hR, hts _ w2, hts _ w3⟩ ⟨hPre_blind _, hrec, hPre_of C h _⟩ rfl hn hl.1 hst (lv_room (m := m) (pc := pc) (ls := ls) (rest := st0) hrest) hdg hcs
theorem r_VN (C : hC p s m args meth c cc nL own D G b0) (h : hw D b0 s.heap f H locs) {lv0 : List (Nat × Value)} (hl : lv_has ls nL lv0) {y : MethodName} {bytes : ByteArray} {maxL n ci : Nat} {ret : Option FieldType} {rm : Room} {index : Nat} {As : List Value} {Qc : Array Value → State → Outcome → State → Prop} {fs : List Value} {Cn host : String} {T : u_T} {N : Nat} (hM : Met l y (Cond.code y bytes maxL ret :: wAll) rm (va_Pc (.ref a :: As) (hPre D G b0 f)) Qc rm.cells rm.slots (hA b0)) (hf : f a = some (.inr (ci, fs))) (hc : vwCl[ci]? = some (Cn, T, N)) (hcn : y.cls = Cn) (hmk : mk y n) (w1 : (own, index, y, host) ∈ nest_m) (w2 : Cond.instanceMethod y ∈ wAll) (w3 : Cond.selects y.cls y y ∈ wAll) (w4 : Cond.code y bytes maxL ret ∈ wAll) (hR : rm.frames + 1 ≤ R.frames ∧ 8 + (maxL + 11) + rm.locals ≤ R.locals) (hn : As.length = n) (hrest : (rest.map fun v => v.category).sum ≤ 8) (hcs : cells + rm.cells ≤ R.cells ∧ slots + rm.slots ≤ R.slots) {st0 : List Value} (hst : st0 = As.reverse ++ .ref a :: rest) (hdg : decode cc pc = .ok (.invokevirtual index, 3)) :
    va_Run p l e R s m args below meth c H locs cells slots rm.cells rm.slots (F0 m pc ls st0) rest (Qc (Value.ref a :: As).toArray) (hA b0) := by
  subst hcn
  have hts := C.2.2.2.2.1
  exact va_runVN (Ts := wAll) (own := own) (C := y.cls) (host := host) (bytes := bytes) (maxL := maxL) (ret := ret) ⟨C.1, C.2.1, C.2.2.1, C.2.2.2.1, hts⟩ hM ⟨va_cnB n hts (wAll_in w4) rfl rfl rfl (C.2.2.2.2.2.1.2.2.1 _ w1) (hts _ hmk.2) hmk.1 hR, hts _ w2, hts _ w3⟩ ⟨hPre_blind _, va_recv C.2.2.2.2.2.1.1 (h.1.one hf) hc (q0 := 0) rfl, hPre_of C h _⟩ rfl hn hl.1 hst (lv_room (m := m) (pc := pc) (ls := ls) (rest := st0) hrest) hdg hcs
theorem r_S (C : hC p s m args meth c cc nL own D G b0) (h : hw D b0 s.heap f H locs) {lv0 : List (Nat × Value)} (hl : lv_has ls nL lv0) {y : MethodName} {bytes : ByteArray} {maxL n : Nat} {ret : Option FieldType} {rm : Room} {index : Nat} {As : List Value} {Qc : Array Value → State → Outcome → State → Prop} (hM : Met l y (Cond.code y bytes maxL ret :: wAll) rm (va_Pc As (hPre D G b0 f)) Qc rm.cells rm.slots (hA b0)) (hmk : mk y n) (w1 : Cond.methodLink own index y ∈ wAll) (w2 : Cond.static y ∈ wAll) (w4 : Cond.code y bytes maxL ret ∈ wAll) (hR : rm.frames + 1 ≤ R.frames ∧ 8 + (maxL + 11) + rm.locals ≤ R.locals) (hn : As.length = n) (hrest : (rest.map fun v => v.category).sum ≤ 8) (hcs : cells + rm.cells ≤ R.cells ∧ slots + rm.slots ≤ R.slots) {st0 : List Value} (hst : st0 = As.reverse ++ rest) (hdg : decode cc pc = .ok (.invokestatic index, 3)) :
    va_Run p l e R s m args below meth c H locs cells slots rm.cells rm.slots (F0 m pc ls st0) rest (Qc As.toArray) (hA b0) := by
  have hts := C.2.2.2.2.1
  exact va_runS (Ts := wAll) (own := own) (bytes := bytes) (maxL := maxL) (ret := ret) ⟨C.1, C.2.1, C.2.2.1, C.2.2.2.1, hts⟩ hM ⟨callB_of n hts (wAll_in w4) rfl rfl rfl (hts _ hmk.2) (hts _ w1) hmk.1 hR, hts _ w2⟩ ⟨hPre_blind _, hPre_of C h _⟩ rfl hn hl.1 hst (lv_room (m := m) (pc := pc) (ls := ls) (rest := st0) hrest) hdg hcs
theorem r_SN (C : hC p s m args meth c cc nL own D G b0) (h : hw D b0 s.heap f H locs) {lv0 : List (Nat × Value)} (hl : lv_has ls nL lv0) {y : MethodName} {bytes : ByteArray} {maxL n : Nat} {ret : Option FieldType} {rm : Room} {index : Nat} {host : String} {As : List Value} {Qc : Array Value → State → Outcome → State → Prop} (hM : Met l y (Cond.code y bytes maxL ret :: wAll) rm (va_Pc As (hPre D G b0 f)) Qc rm.cells rm.slots (hA b0)) (hmk : mk y n) (w1 : (own, index, y, host) ∈ nest_m) (w2 : Cond.static y ∈ wAll) (w4 : Cond.code y bytes maxL ret ∈ wAll) (hR : rm.frames + 1 ≤ R.frames ∧ 8 + (maxL + 11) + rm.locals ≤ R.locals) (hn : As.length = n) (hrest : (rest.map fun v => v.category).sum ≤ 8) (hcs : cells + rm.cells ≤ R.cells ∧ slots + rm.slots ≤ R.slots) {st0 : List Value} (hst : st0 = As.reverse ++ rest) (hdg : decode cc pc = .ok (.invokestatic index, 3)) :
    va_Run p l e R s m args below meth c H locs cells slots rm.cells rm.slots (F0 m pc ls st0) rest (Qc As.toArray) (hA b0) := by
  have hts := C.2.2.2.2.1
  exact va_runSN (Ts := wAll) (own := own) (host := host) (bytes := bytes) (maxL := maxL) (ret := ret) ⟨C.1, C.2.1, C.2.2.1, C.2.2.2.1, hts⟩ hM ⟨va_cnB n hts (wAll_in w4) rfl rfl rfl (C.2.2.2.2.2.1.2.2.1 _ w1) (hts _ hmk.2) hmk.1 hR, hts _ w2, trivial⟩ ⟨hPre_blind _, hPre_of C h _⟩ rfl hn hl.1 hst (lv_room (m := m) (pc := pc) (ls := ls) (rest := st0) hrest) hdg hcs
theorem r_I (C : hC p s m args meth c cc nL own D G b0) (h : hw D b0 s.heap f H locs) {lv0 : List (Nat × Value)} (hl : lv_has ls nL lv0) {y : MethodName} {bytes : ByteArray} {maxL n : Nat} {rm : Room} {index : Nat} {As : List Value} {Qc : Array Value → State → Outcome → State → Prop} (hM : Met l y (Cond.code y bytes maxL none :: wAll) rm (va_Pc (.ref a :: As) (hPre D G b0 f)) Qc rm.cells rm.slots (hA b0)) (hmk : mk y n) (hy1 : y.name = "<init>") (w1 : Cond.methodLink own index y ∈ wAll) (w2 : Cond.instanceMethod y ∈ wAll) (w4 : Cond.code y bytes maxL none ∈ wAll) (hR : rm.frames + 1 ≤ R.frames ∧ 8 + (maxL + 11) + rm.locals ≤ R.locals) (hn : As.length = n) (hrest : (rest.map fun v => v.category).sum ≤ 8) (hcs : cells + rm.cells ≤ R.cells ∧ slots + rm.slots ≤ R.slots) {st0 : List Value} (hst : st0 = As.reverse ++ .ref a :: rest) (hdg : decode cc pc = .ok (.invokespecial index, 3)) :
    va_Run p l e R s m args below meth c H locs cells slots rm.cells rm.slots (F0 m pc ls st0) rest (Qc (Value.ref a :: As).toArray) (hA b0) := by
  have hts := C.2.2.2.2.1
  exact va_runI (Ts := wAll) (own := own) (bytes := bytes) (maxL := maxL) ⟨C.1, C.2.1, C.2.2.1, C.2.2.2.1, hts⟩ hM ⟨callB_of n hts (wAll_in w4) rfl rfl rfl (hts _ hmk.2) (hts _ w1) hmk.1 hR, hy1, hts _ w2⟩ ⟨hPre_blind _, hPre_of C h _⟩ rfl hn hl.1 hst (lv_room (m := m) (pc := pc) (ls := ls) (rest := st0) hrest) hdg hcs
theorem r_IN (C : hC p s m args meth c cc nL own D G b0) (h : hw D b0 s.heap f H locs) {lv0 : List (Nat × Value)} (hl : lv_has ls nL lv0) {y : MethodName} {bytes : ByteArray} {maxL n : Nat} {rm : Room} {index : Nat} {host : String} {As : List Value} {Qc : Array Value → State → Outcome → State → Prop} (hM : Met l y (Cond.code y bytes maxL none :: wAll) rm (va_Pc (.ref a :: As) (hPre D G b0 f)) Qc rm.cells rm.slots (hA b0)) (hmk : mk y n) (hy1 : y.name = "<init>") (w1 : (own, index, y, host) ∈ nest_m) (w2 : Cond.instanceMethod y ∈ wAll) (w4 : Cond.code y bytes maxL none ∈ wAll) (hR : rm.frames + 1 ≤ R.frames ∧ 8 + (maxL + 11) + rm.locals ≤ R.locals) (hn : As.length = n) (hrest : (rest.map fun v => v.category).sum ≤ 8) (hcs : cells + rm.cells ≤ R.cells ∧ slots + rm.slots ≤ R.slots) {st0 : List Value} (hst : st0 = As.reverse ++ .ref a :: rest) (hdg : decode cc pc = .ok (.invokespecial index, 3)) :
    va_Run p l e R s m args below meth c H locs cells slots rm.cells rm.slots (F0 m pc ls st0) rest (Qc (Value.ref a :: As).toArray) (hA b0) := by
  have hts := C.2.2.2.2.1
  exact va_runIN (Ts := wAll) (own := own) (host := host) (bytes := bytes) (maxL := maxL) ⟨C.1, C.2.1, C.2.2.1, C.2.2.2.1, hts⟩ hM ⟨va_cnB n hts (wAll_in w4) rfl rfl rfl (C.2.2.2.2.2.1.2.2.1 _ w1) (hts _ hmk.2) hmk.1 hR, hy1, hts _ w2⟩ ⟨hPre_blind _, hPre_of C h _⟩ rfl hn hl.1 hst (lv_room (m := m) (pc := pc) (ls := ls) (rest := st0) hrest) hdg hcs
theorem k_i {st0 : List Value} {mc ms : Nat} {aa : Array Value} {post : Int32 → hM → Prop} (hr : va_Run p l e R s m args below meth c H locs cells slots mc ms (F0 m pc ls st0) rest (va_Qi post (hPost D b0) (hA b0) aa) (hA b0)) (h : hw D b0 H0 f H locs) (kk : ∀ (r : Int32) (f1 : hM) (H1 : Heap) (locs1 : List Loc), post r f1 → hw D b0 H0 f1 H1 locs1 → W p l e R s m args below meth c H1 locs1 (cells + mc) (slots + ms) Q (F0 m (pc + 3) ls (.int r :: rest))) : W p l e R s m args below meth c H locs cells slots Q (F0 m pc ls st0) :=
  va_calli hr h.2.2.1 (fun q _ h => h) (fun q h => h) (fun r u t H1 locs1 ht hvm hp hB hz1 hk1 hS => kk r u H1 locs1 hp ⟨by rw [← ht]; exact hB.1, hB.2, hS, h.2.2.2⟩)
theorem k_l {st0 : List Value} {mc ms : Nat} {aa : Array Value} {post : Int64 → hM → Prop} (hr : va_Run p l e R s m args below meth c H locs cells slots mc ms (F0 m pc ls st0) rest (va_Ql post (hPost D b0) (hA b0) aa) (hA b0)) (h : hw D b0 H0 f H locs) (kk : ∀ (r : Int64) (f1 : hM) (H1 : Heap) (locs1 : List Loc), post r f1 → hw D b0 H0 f1 H1 locs1 → W p l e R s m args below meth c H1 locs1 (cells + mc) (slots + ms) Q (F0 m (pc + 3) ls (.long r :: rest))) : W p l e R s m args below meth c H locs cells slots Q (F0 m pc ls st0) :=
  va_calll hr h.2.2.1 (fun q _ h => h) (fun q h => h) (fun r u t H1 locs1 ht hvm hp hB hz1 hk1 hS => kk r u H1 locs1 hp ⟨by rw [← ht]; exact hB.1, hB.2, hS, h.2.2.2⟩)
theorem k_v {st0 : List Value} {mc ms : Nat} {aa : Array Value} {post : hM → Prop} (hr : va_Run p l e R s m args below meth c H locs cells slots mc ms (F0 m pc ls st0) rest (va_Qv post (hPost D b0) (hA b0) aa) (hA b0)) (h : hw D b0 H0 f H locs) (kk : ∀ (f1 : hM) (H1 : Heap) (locs1 : List Loc), post f1 → hw D b0 H0 f1 H1 locs1 → W p l e R s m args below meth c H1 locs1 (cells + mc) (slots + ms) Q (F0 m (pc + 3) ls rest)) : W p l e R s m args below meth c H locs cells slots Q (F0 m pc ls st0) :=
  va_callv hr h.2.2.1 (fun q _ h => h) (fun q h => h) (fun u t H1 locs1 ht hvm hp hB hz1 hk1 hS => kk u H1 locs1 hp ⟨by rw [← ht]; exact hB.1, hB.2, hS, h.2.2.2⟩)
theorem k_q {st0 : List Value} {mc ms : Nat} {aa : Array Value} {post : Option Nat → hM → Prop} (hr : va_Run p l e R s m args below meth c H locs cells slots mc ms (F0 m pc ls st0) rest (va_Qq post (hPost D b0) (hA b0) aa) (hA b0)) (h : hw D b0 H0 f H locs) (kk : ∀ (r : Option Nat) (f1 : hM) (H1 : Heap) (locs1 : List Loc), post r f1 → hw D b0 H0 f1 H1 locs1 → W p l e R s m args below meth c H1 locs1 (cells + mc) (slots + ms) Q (F0 m (pc + 3) ls (va_rf r :: rest))) : W p l e R s m args below meth c H locs cells slots Q (F0 m pc ls st0) :=
  va_callq hr h.2.2.1 (fun q _ h => h) (fun q h => h) (fun r u t H1 locs1 ht hvm hp hB hz1 hk1 hS => kk r u H1 locs1 hp ⟨by rw [← ht]; exact hB.1, hB.2, hS, h.2.2.2⟩)
end HRows
end
section
theorem dX10_within_0 : decode cX10_within 0 = .ok (.iload_n 0, 1) := by decide +kernel
theorem dX10_within_1 : decode cX10_within 1 = .ok (.iload_n 1, 1) := by decide +kernel
theorem dX10_within_2 : decode cX10_within 2 = .ok (.if_icmp .lt 12, 3) := by decide +kernel
theorem dX10_within_14 : decode cX10_within 14 = .ok (.iconst 0, 1) := by decide +kernel
theorem dX10_within_15 : decode cX10_within 15 = .ok (.ireturn, 1) := by decide +kernel
theorem dX10_within_5 : decode cX10_within 5 = .ok (.iload_n 0, 1) := by decide +kernel
theorem dX10_within_6 : decode cX10_within 6 = .ok (.iload_n 2, 1) := by decide +kernel
theorem dX10_within_7 : decode cX10_within 7 = .ok (.if_icmp .gt 7, 3) := by decide +kernel
theorem dX10_within_10 : decode cX10_within 10 = .ok (.iconst 1, 1) := by decide +kernel
theorem dX10_within_11 : decode cX10_within 11 = .ok (.goto 4, 3) := by decide +kernel
theorem dX11_isIn_0 : decode cX11_isIn 0 = .ok (.lload_n 0, 1) := by decide +kernel
theorem dX11_isIn_1 : decode cX11_isIn 1 = .ok (.lload_n 2, 1) := by decide +kernel
theorem dX11_isIn_2 : decode cX11_isIn 2 = .ok (.lcmp, 1) := by decide +kernel
theorem dX11_isIn_3 : decode cX11_isIn 3 = .ok (.ifCond .lt 14, 3) := by decide +kernel
theorem dX11_isIn_17 : decode cX11_isIn 17 = .ok (.iconst 0, 1) := by decide +kernel
theorem dX11_isIn_18 : decode cX11_isIn 18 = .ok (.ireturn, 1) := by decide +kernel
theorem dX11_isIn_6 : decode cX11_isIn 6 = .ok (.lload_n 0, 1) := by decide +kernel
theorem dX11_isIn_7 : decode cX11_isIn 7 = .ok (.lload 4, 2) := by decide +kernel
theorem dX11_isIn_9 : decode cX11_isIn 9 = .ok (.lcmp, 1) := by decide +kernel
theorem dX11_isIn_10 : decode cX11_isIn 10 = .ok (.ifCond .gt 7, 3) := by decide +kernel
theorem dX11_isIn_13 : decode cX11_isIn 13 = .ok (.iconst 1, 1) := by decide +kernel
theorem dX11_isIn_14 : decode cX11_isIn 14 = .ok (.goto 4, 3) := by decide +kernel
theorem dX0_find_0 : decode cX0_find 0 = .ok (.iload_n 1, 1) := by decide +kernel
theorem dX0_find_1 : decode cX0_find 1 = .ok (.iconst 0, 1) := by decide +kernel
theorem dX0_find_2 : decode cX0_find 2 = .ok (.aload_n 0, 1) := by decide +kernel
theorem dX0_find_3 : decode cX0_find 3 = .ok (.getfield 12, 3) := by decide +kernel
theorem w_193 : Cond.lays "QuarterWalks$Book" "QuarterWalks$Book" "past" "I" ∈ wAll := wIn 193 (by decide +kernel) (by decide +kernel)
theorem w_195 : Cond.laysFinal "QuarterWalks$Book" "QuarterWalks$Book" "now" "LQuarterWalks$Shelf;" ∈ wAll := wIn 195 (by decide +kernel) (by decide +kernel)
theorem w_197 : Cond.laysFinal "QuarterWalks$Book" "QuarterWalks$Book" "kept" "LQuarterWalks$Shelf;" ∈ wAll := wIn 197 (by decide +kernel) (by decide +kernel)
theorem w_199 : Cond.laysFinal "QuarterWalks$Book" "QuarterWalks$Book" "before" "[LQuarterWalks$Shelf;" ∈ wAll := wIn 199 (by decide +kernel) (by decide +kernel)
theorem w_201 : Cond.lays "QuarterWalks$Book" "QuarterWalks$Book" "isKept" "Z" ∈ wAll := wIn 201 (by decide +kernel) (by decide +kernel)
theorem w_203 : Cond.lays "QuarterWalks$Book" "QuarterWalks$Book" "next" "I" ∈ wAll := wIn 203 (by decide +kernel) (by decide +kernel)
theorem inA_X0 : ∀ w ∈ u_ws RX0 TX0 6, w ∈ wAll := List.forall_mem_cons.mpr ⟨w_193, List.forall_mem_cons.mpr ⟨w_195, List.forall_mem_cons.mpr ⟨w_197, List.forall_mem_cons.mpr ⟨w_199, List.forall_mem_cons.mpr ⟨w_201, List.forall_mem_cons.mpr ⟨w_203, fun _ h => absurd h List.not_mem_nil⟩⟩⟩⟩⟩⟩
theorem w_188 : Cond.fieldLink "QuarterWalks$Book" 12 "QuarterWalks$Book" "now" "LQuarterWalks$Shelf;" ∈ wAll := wIn 188 (by decide +kernel) (by decide +kernel)
theorem fl_X0_12 : fl RX0 12 1 1 := ⟨RX0, TX0, 6, rfl, inA_X0, by decide, w_188⟩
theorem dX0_find_6 : decode cX0_find 6 = .ok (.getfield 25, 3) := by decide +kernel
theorem w_180 : Cond.laysFinal "QuarterWalks$Shelf" "QuarterWalks$Shelf" "sets" "[LQuarterWalks$StepSet;" ∈ wAll := wIn 180 (by decide +kernel) (by decide +kernel)
theorem w_182 : Cond.lays "QuarterWalks$Shelf" "QuarterWalks$Shelf" "size" "I" ∈ wAll := wIn 182 (by decide +kernel) (by decide +kernel)
theorem inA_X5 : ∀ w ∈ u_ws RX5 TX5 2, w ∈ wAll := List.forall_mem_cons.mpr ⟨w_180, List.forall_mem_cons.mpr ⟨w_182, fun _ h => absurd h List.not_mem_nil⟩⟩
theorem w_178 : Cond.fieldLink "QuarterWalks$Book" 25 "QuarterWalks$Shelf" "size" "I" ∈ wAll := wIn 178 (by decide +kernel) (by decide +kernel)
theorem fl_X0_25 : fl RX0 25 6 1 := ⟨RX5, TX5, 2, rfl, inA_X5, by decide, w_178⟩
theorem dX0_find_9 : decode cX0_find 9 = .ok (.iconst 1, 1) := by decide +kernel
theorem dX0_find_10 : decode cX0_find 10 = .ok (.isub, 1) := by decide +kernel
theorem dX0_find_11 : decode cX0_find 11 = .ok (.invokestatic 29, 3) := by decide +kernel
theorem w_96 : Cond.initialized "QuarterWalks" ∈ wAll := wIn 96 (by decide +kernel) (by decide +kernel)
theorem mk_X10_within : mk yX10_within 3 := ⟨by decide +kernel, w_96⟩
theorem w_426 : Cond.static yX10_within ∈ wAll := wIn 426 (by decide +kernel) (by decide +kernel)
theorem w_427 : Cond.code yX10_within cX10_within 3 (some .boolean) ∈ wAll := wIn 427 (by decide +kernel) (by decide +kernel)
theorem dX0_find_14 : decode cX0_find 14 = .ok (.ifCond .eq 15, 3) := by decide +kernel
theorem dX0_find_29 : decode cX0_find 29 = .ok (.aconst_null, 1) := by decide +kernel
theorem dX0_find_30 : decode cX0_find 30 = .ok (.areturn, 1) := by decide +kernel
theorem dX11_isSet_0 : decode cX11_isSet 0 = .ok (.iload_n 1, 1) := by decide +kernel
theorem dX11_isSet_1 : decode cX11_isSet 1 = .ok (.i2l, 1) := by decide +kernel
theorem dX11_isSet_2 : decode cX11_isSet 2 = .ok (.lconst 0, 1) := by decide +kernel
theorem dX11_isSet_3 : decode cX11_isSet 3 = .ok (.aload_n 0, 1) := by decide +kernel
theorem dX11_isSet_4 : decode cX11_isSet 4 = .ok (.getfield 17, 3) := by decide +kernel
theorem w_1465 : Cond.lays "QuarterWalksModel" "QuarterWalksModel" "thrown" "I" ∈ wAll := wIn 1465 (by decide +kernel) (by decide +kernel)
theorem w_1467 : Cond.laysFinal "QuarterWalksModel" "QuarterWalksModel" "tape" "[B" ∈ wAll := wIn 1467 (by decide +kernel) (by decide +kernel)
theorem w_1469 : Cond.lays "QuarterWalksModel" "QuarterWalksModel" "length" "I" ∈ wAll := wIn 1469 (by decide +kernel) (by decide +kernel)
theorem w_1471 : Cond.lays "QuarterWalksModel" "QuarterWalksModel" "at" "I" ∈ wAll := wIn 1471 (by decide +kernel) (by decide +kernel)
theorem w_1473 : Cond.lays "QuarterWalksModel" "QuarterWalksModel" "fault" "I" ∈ wAll := wIn 1473 (by decide +kernel) (by decide +kernel)
theorem w_1475 : Cond.laysFinal "QuarterWalksModel" "QuarterWalksModel" "read" "[I" ∈ wAll := wIn 1475 (by decide +kernel) (by decide +kernel)
theorem w_1477 : Cond.laysFinal "QuarterWalksModel" "QuarterWalksModel" "book" "[I" ∈ wAll := wIn 1477 (by decide +kernel) (by decide +kernel)
theorem w_1479 : Cond.laysFinal "QuarterWalksModel" "QuarterWalksModel" "image" "[I" ∈ wAll := wIn 1479 (by decide +kernel) (by decide +kernel)
theorem w_1481 : Cond.laysFinal "QuarterWalksModel" "QuarterWalksModel" "kept" "[I" ∈ wAll := wIn 1481 (by decide +kernel) (by decide +kernel)
theorem w_1483 : Cond.laysFinal "QuarterWalksModel" "QuarterWalksModel" "refused" "[I" ∈ wAll := wIn 1483 (by decide +kernel) (by decide +kernel)
theorem w_1485 : Cond.lays "QuarterWalksModel" "QuarterWalksModel" "acts" "I" ∈ wAll := wIn 1485 (by decide +kernel) (by decide +kernel)
theorem w_1487 : Cond.lays "QuarterWalksModel" "QuarterWalksModel" "hasImage" "Z" ∈ wAll := wIn 1487 (by decide +kernel) (by decide +kernel)
theorem w_1489 : Cond.lays "QuarterWalksModel" "QuarterWalksModel" "grid" "[J" ∈ wAll := wIn 1489 (by decide +kernel) (by decide +kernel)
theorem w_1491 : Cond.lays "QuarterWalksModel" "QuarterWalksModel" "next" "[J" ∈ wAll := wIn 1491 (by decide +kernel) (by decide +kernel)
theorem w_1493 : Cond.lays "QuarterWalksModel" "QuarterWalksModel" "gone" "I" ∈ wAll := wIn 1493 (by decide +kernel) (by decide +kernel)
theorem w_1495 : Cond.laysFinal "QuarterWalksModel" "QuarterWalksModel" "term" "[I" ∈ wAll := wIn 1495 (by decide +kernel) (by decide +kernel)
theorem w_1497 : Cond.laysFinal "QuarterWalksModel" "QuarterWalksModel" "other" "[I" ∈ wAll := wIn 1497 (by decide +kernel) (by decide +kernel)
theorem w_1499 : Cond.laysFinal "QuarterWalksModel" "QuarterWalksModel" "table" "[J" ∈ wAll := wIn 1499 (by decide +kernel) (by decide +kernel)
theorem w_1501 : Cond.lays "QuarterWalksModel" "QuarterWalksModel" "determinant" "J" ∈ wAll := wIn 1501 (by decide +kernel) (by decide +kernel)
theorem w_1503 : Cond.laysFinal "QuarterWalksModel" "QuarterWalksModel" "held" "[J" ∈ wAll := wIn 1503 (by decide +kernel) (by decide +kernel)
theorem w_1505 : Cond.laysFinal "QuarterWalksModel" "QuarterWalksModel" "orbitX" "[I" ∈ wAll := wIn 1505 (by decide +kernel) (by decide +kernel)
theorem w_1507 : Cond.laysFinal "QuarterWalksModel" "QuarterWalksModel" "orbitY" "[I" ∈ wAll := wIn 1507 (by decide +kernel) (by decide +kernel)
theorem w_1509 : Cond.laysFinal "QuarterWalksModel" "QuarterWalksModel" "column" "[J" ∈ wAll := wIn 1509 (by decide +kernel) (by decide +kernel)
theorem w_1511 : Cond.laysFinal "QuarterWalksModel" "QuarterWalksModel" "reduced" "[J" ∈ wAll := wIn 1511 (by decide +kernel) (by decide +kernel)
theorem w_1513 : Cond.laysFinal "QuarterWalksModel" "QuarterWalksModel" "made" "[J" ∈ wAll := wIn 1513 (by decide +kernel) (by decide +kernel)
theorem w_1515 : Cond.laysFinal "QuarterWalksModel" "QuarterWalksModel" "told" "[J" ∈ wAll := wIn 1515 (by decide +kernel) (by decide +kernel)
theorem w_1517 : Cond.laysFinal "QuarterWalksModel" "QuarterWalksModel" "leads" "[I" ∈ wAll := wIn 1517 (by decide +kernel) (by decide +kernel)
theorem w_1519 : Cond.lays "QuarterWalksModel" "QuarterWalksModel" "columns" "I" ∈ wAll := wIn 1519 (by decide +kernel) (by decide +kernel)
theorem w_1521 : Cond.lays "QuarterWalksModel" "QuarterWalksModel" "rows" "I" ∈ wAll := wIn 1521 (by decide +kernel) (by decide +kernel)
theorem w_1523 : Cond.laysFinal "QuarterWalksModel" "QuarterWalksModel" "powers" "[J" ∈ wAll := wIn 1523 (by decide +kernel) (by decide +kernel)
theorem w_1525 : Cond.laysFinal "QuarterWalksModel" "QuarterWalksModel" "said" "[I" ∈ wAll := wIn 1525 (by decide +kernel) (by decide +kernel)
theorem w_1527 : Cond.lays "QuarterWalksModel" "QuarterWalksModel" "says" "I" ∈ wAll := wIn 1527 (by decide +kernel) (by decide +kernel)
theorem inA_X11 : ∀ w ∈ u_ws RX11 TX11 32, w ∈ wAll := List.forall_mem_cons.mpr ⟨w_1465, List.forall_mem_cons.mpr ⟨w_1467, List.forall_mem_cons.mpr ⟨w_1469, List.forall_mem_cons.mpr ⟨w_1471, List.forall_mem_cons.mpr ⟨w_1473, List.forall_mem_cons.mpr ⟨w_1475, List.forall_mem_cons.mpr ⟨w_1477, List.forall_mem_cons.mpr ⟨w_1479, List.forall_mem_cons.mpr ⟨w_1481, List.forall_mem_cons.mpr ⟨w_1483, List.forall_mem_cons.mpr ⟨w_1485, List.forall_mem_cons.mpr ⟨w_1487, List.forall_mem_cons.mpr ⟨w_1489, List.forall_mem_cons.mpr ⟨w_1491, List.forall_mem_cons.mpr ⟨w_1493, List.forall_mem_cons.mpr ⟨w_1495, List.forall_mem_cons.mpr ⟨w_1497, List.forall_mem_cons.mpr ⟨w_1499, List.forall_mem_cons.mpr ⟨w_1501, List.forall_mem_cons.mpr ⟨w_1503, List.forall_mem_cons.mpr ⟨w_1505, List.forall_mem_cons.mpr ⟨w_1507, List.forall_mem_cons.mpr ⟨w_1509, List.forall_mem_cons.mpr ⟨w_1511, List.forall_mem_cons.mpr ⟨w_1513, List.forall_mem_cons.mpr ⟨w_1515, List.forall_mem_cons.mpr ⟨w_1517, List.forall_mem_cons.mpr ⟨w_1519, List.forall_mem_cons.mpr ⟨w_1521, List.forall_mem_cons.mpr ⟨w_1523, List.forall_mem_cons.mpr ⟨w_1525, List.forall_mem_cons.mpr ⟨w_1527, fun _ h => absurd h List.not_mem_nil⟩⟩⟩⟩⟩⟩⟩⟩⟩⟩⟩⟩⟩⟩⟩⟩⟩⟩⟩⟩⟩⟩⟩⟩⟩⟩⟩⟩⟩⟩⟩⟩
theorem w_1439 : Cond.fieldLink "QuarterWalksModel" 17 "QuarterWalksModel" "book" "[I" ∈ wAll := wIn 1439 (by decide +kernel) (by decide +kernel)
theorem fl_X11_17 : fl RX11 17 12 6 := ⟨RX11, TX11, 32, rfl, inA_X11, by decide, w_1439⟩
theorem dX11_isSet_7 : decode cX11_isSet 7 = .ok (.bipush 80, 2) := by decide +kernel
theorem dX11_isSet_9 : decode cX11_isSet 9 = .ok (.iaload, 1) := by decide +kernel
theorem dX11_isSet_10 : decode cX11_isSet 10 = .ok (.iconst 1, 1) := by decide +kernel
theorem dX11_isSet_11 : decode cX11_isSet 11 = .ok (.isub, 1) := by decide +kernel
theorem dX11_isSet_12 : decode cX11_isSet 12 = .ok (.i2l, 1) := by decide +kernel
theorem dX11_isSet_13 : decode cX11_isSet 13 = .ok (.invokestatic 158, 3) := by decide +kernel
theorem w_1628 : Cond.methodLink "QuarterWalksModel" 158 yX11_isIn ∈ wAll := wIn 1628 (by decide +kernel) (by decide +kernel)
theorem w_110 : Cond.initialized "QuarterWalksModel" ∈ wAll := wIn 110 (by decide +kernel) (by decide +kernel)
theorem mk_X11_isIn : mk yX11_isIn 3 := ⟨by decide +kernel, w_110⟩
theorem w_1629 : Cond.static yX11_isIn ∈ wAll := wIn 1629 (by decide +kernel) (by decide +kernel)
theorem w_1630 : Cond.code yX11_isIn cX11_isIn 6 (some .boolean) ∈ wAll := wIn 1630 (by decide +kernel) (by decide +kernel)
theorem dX11_isSet_16 : decode cX11_isSet 16 = .ok (.ireturn, 1) := by decide +kernel
theorem dX10_refuse_0 : decode cX10_refuse 0 = .ok (.aload_n 0, 1) := by decide +kernel
theorem dX10_refuse_1 : decode cX10_refuse 1 = .ok (.getfield 60, 3) := by decide +kernel
theorem w_389 : Cond.laysFinal "QuarterWalks" "QuarterWalks" "tape" "LQuarterWalks$Tape;" ∈ wAll := wIn 389 (by decide +kernel) (by decide +kernel)
theorem w_391 : Cond.laysFinal "QuarterWalks" "QuarterWalks" "book" "LQuarterWalks$Book;" ∈ wAll := wIn 391 (by decide +kernel) (by decide +kernel)
theorem w_393 : Cond.laysFinal "QuarterWalks" "QuarterWalks" "grid" "LQuarterWalks$Grid;" ∈ wAll := wIn 393 (by decide +kernel) (by decide +kernel)
theorem w_395 : Cond.laysFinal "QuarterWalks" "QuarterWalks" "ways" "LQuarterWalks$Ways;" ∈ wAll := wIn 395 (by decide +kernel) (by decide +kernel)
theorem w_397 : Cond.laysFinal "QuarterWalks" "QuarterWalks" "turns" "LQuarterWalks$Turns;" ∈ wAll := wIn 397 (by decide +kernel) (by decide +kernel)
theorem w_399 : Cond.laysFinal "QuarterWalks" "QuarterWalks" "matrix" "LQuarterWalks$Matrix;" ∈ wAll := wIn 399 (by decide +kernel) (by decide +kernel)
theorem w_401 : Cond.laysFinal "QuarterWalks" "QuarterWalks" "guess" "LQuarterWalks$Guess;" ∈ wAll := wIn 401 (by decide +kernel) (by decide +kernel)
theorem w_403 : Cond.laysFinal "QuarterWalks" "QuarterWalks" "refused" "[I" ∈ wAll := wIn 403 (by decide +kernel) (by decide +kernel)
theorem w_405 : Cond.laysFinal "QuarterWalks" "QuarterWalks" "scratch" "[J" ∈ wAll := wIn 405 (by decide +kernel) (by decide +kernel)
theorem w_407 : Cond.laysFinal "QuarterWalks" "QuarterWalks" "script" "Ljava/lang/StringBuilder;" ∈ wAll := wIn 407 (by decide +kernel) (by decide +kernel)
theorem inA_X10 : ∀ w ∈ u_ws RX10 TX10 10, w ∈ wAll := List.forall_mem_cons.mpr ⟨w_389, List.forall_mem_cons.mpr ⟨w_391, List.forall_mem_cons.mpr ⟨w_393, List.forall_mem_cons.mpr ⟨w_395, List.forall_mem_cons.mpr ⟨w_397, List.forall_mem_cons.mpr ⟨w_399, List.forall_mem_cons.mpr ⟨w_401, List.forall_mem_cons.mpr ⟨w_403, List.forall_mem_cons.mpr ⟨w_405, List.forall_mem_cons.mpr ⟨w_407, fun _ h => absurd h List.not_mem_nil⟩⟩⟩⟩⟩⟩⟩⟩⟩⟩
theorem w_386 : Cond.fieldLink "QuarterWalks" 60 "QuarterWalks" "refused" "[I" ∈ wAll := wIn 386 (by decide +kernel) (by decide +kernel)
theorem fl_X10_60 : fl RX10 60 11 7 := ⟨RX10, TX10, 10, rfl, inA_X10, by decide, w_386⟩
theorem dX10_refuse_4 : decode cX10_refuse 4 = .ok (.iload_n 1, 1) := by decide +kernel
theorem dX10_refuse_5 : decode cX10_refuse 5 = .ok (.dup2, 1) := by decide +kernel
theorem dX10_refuse_6 : decode cX10_refuse 6 = .ok (.iaload, 1) := by decide +kernel
theorem dX10_refuse_7 : decode cX10_refuse 7 = .ok (.iconst 1, 1) := by decide +kernel
theorem dX10_refuse_8 : decode cX10_refuse 8 = .ok (.iadd, 1) := by decide +kernel
theorem dX10_refuse_9 : decode cX10_refuse 9 = .ok (.iastore, 1) := by decide +kernel
theorem dX10_refuse_10 : decode cX10_refuse 10 = .ok (.iconst (-1), 1) := by decide +kernel
theorem dX10_refuse_11 : decode cX10_refuse 11 = .ok (.ireturn, 1) := by decide +kernel
theorem dX11_refuse_0 : decode cX11_refuse 0 = .ok (.aload_n 0, 1) := by decide +kernel
theorem dX11_refuse_1 : decode cX11_refuse 1 = .ok (.getfield 26, 3) := by decide +kernel
theorem w_1442 : Cond.fieldLink "QuarterWalksModel" 26 "QuarterWalksModel" "refused" "[I" ∈ wAll := wIn 1442 (by decide +kernel) (by decide +kernel)
theorem fl_X11_26 : fl RX11 26 12 9 := ⟨RX11, TX11, 32, rfl, inA_X11, by decide, w_1442⟩
theorem dX11_refuse_4 : decode cX11_refuse 4 = .ok (.iload_n 1, 1) := by decide +kernel
theorem dX11_refuse_5 : decode cX11_refuse 5 = .ok (.dup2, 1) := by decide +kernel
theorem dX11_refuse_6 : decode cX11_refuse 6 = .ok (.iaload, 1) := by decide +kernel
theorem dX11_refuse_7 : decode cX11_refuse 7 = .ok (.iconst 1, 1) := by decide +kernel
theorem dX11_refuse_8 : decode cX11_refuse 8 = .ok (.iadd, 1) := by decide +kernel
theorem dX11_refuse_9 : decode cX11_refuse 9 = .ok (.iastore, 1) := by decide +kernel
theorem dX11_refuse_10 : decode cX11_refuse 10 = .ok (.iconst (-1), 1) := by decide +kernel
theorem dX11_refuse_11 : decode cX11_refuse 11 = .ok (.ireturn, 1) := by decide +kernel
theorem dX10_readies_0 : decode cX10_readies 0 = .ok (.aload_n 0, 1) := by decide +kernel
theorem dX10_readies_1 : decode cX10_readies 1 = .ok (.getfield 19, 3) := by decide +kernel
theorem w_380 : Cond.fieldLink "QuarterWalks" 19 "QuarterWalks" "book" "LQuarterWalks$Book;" ∈ wAll := wIn 380 (by decide +kernel) (by decide +kernel)
theorem fl_X10_19 : fl RX10 19 11 1 := ⟨RX10, TX10, 10, rfl, inA_X10, by decide, w_380⟩
theorem dX10_readies_4 : decode cX10_readies 4 = .ok (.iload_n 1, 1) := by decide +kernel
theorem dX10_readies_5 : decode cX10_readies 5 = .ok (.invokevirtual 110, 3) := by decide +kernel
theorem w_594 : Cond.methodLink "QuarterWalks" 110 yX0_find ∈ wAll := wIn 594 (by decide +kernel) (by decide +kernel)
theorem w_596 : Cond.selects yX0_find.cls yX0_find yX0_find ∈ wAll := wIn 596 (by decide +kernel) (by decide +kernel)
theorem w_98 : Cond.initialized "QuarterWalks$Book" ∈ wAll := wIn 98 (by decide +kernel) (by decide +kernel)
theorem mk_X0_find : mk yX0_find 1 := ⟨by decide +kernel, w_98⟩
theorem w_595 : Cond.instanceMethod yX0_find ∈ wAll := wIn 595 (by decide +kernel) (by decide +kernel)
theorem w_597 : Cond.code yX0_find cX0_find 2 (some (.object "QuarterWalks$StepSet")) ∈ wAll := wIn 597 (by decide +kernel) (by decide +kernel)
theorem dX10_readies_8 : decode cX10_readies 8 = .ok (.astore 6, 2) := by decide +kernel
theorem dX10_readies_10 : decode cX10_readies 10 = .ok (.aload 6, 2) := by decide +kernel
theorem dX10_readies_12 : decode cX10_readies 12 = .ok (.ifnull 21, 3) := by decide +kernel
theorem dX10_readies_33 : decode cX10_readies 33 = .ok (.iconst 0, 1) := by decide +kernel
theorem dX10_readies_34 : decode cX10_readies 34 = .ok (.ireturn, 1) := by decide +kernel
theorem dX10_drop_0 : decode cX10_drop 0 = .ok (.aload_n 0, 1) := by decide +kernel
theorem dX10_drop_1 : decode cX10_drop 1 = .ok (.getfield 19, 3) := by decide +kernel
theorem dX10_drop_4 : decode cX10_drop 4 = .ok (.iload_n 1, 1) := by decide +kernel
theorem dX10_drop_5 : decode cX10_drop 5 = .ok (.invokevirtual 110, 3) := by decide +kernel
theorem dX10_drop_8 : decode cX10_drop 8 = .ok (.ifnonnull 9, 3) := by decide +kernel
theorem dX10_drop_11 : decode cX10_drop 11 = .ok (.aload_n 0, 1) := by decide +kernel
theorem dX10_drop_12 : decode cX10_drop 12 = .ok (.iconst 0, 1) := by decide +kernel
theorem dX10_drop_13 : decode cX10_drop 13 = .ok (.invokevirtual 95, 3) := by decide +kernel
theorem w_519 : Cond.methodLink "QuarterWalks" 95 yX10_refuse ∈ wAll := wIn 519 (by decide +kernel) (by decide +kernel)
theorem w_8 : Cond.selects yX10_refuse.cls yX10_refuse yX10_refuse ∈ wAll := wIn 8 (by decide +kernel) (by decide +kernel)
theorem mk_X10_refuse : mk yX10_refuse 1 := ⟨by decide +kernel, w_96⟩
theorem w_521 : Cond.instanceMethod yX10_refuse ∈ wAll := wIn 521 (by decide +kernel) (by decide +kernel)
theorem w_522 : Cond.code yX10_refuse cX10_refuse 2 (some .int) ∈ wAll := wIn 522 (by decide +kernel) (by decide +kernel)
theorem dX10_drop_16 : decode cX10_drop 16 = .ok (.ireturn, 1) := by decide +kernel
theorem dX10_mirror_0 : decode cX10_mirror 0 = .ok (.aload_n 0, 1) := by decide +kernel
theorem dX10_mirror_1 : decode cX10_mirror 1 = .ok (.getfield 19, 3) := by decide +kernel
theorem dX10_mirror_4 : decode cX10_mirror 4 = .ok (.iload_n 1, 1) := by decide +kernel
theorem dX10_mirror_5 : decode cX10_mirror 5 = .ok (.invokevirtual 110, 3) := by decide +kernel
theorem dX10_mirror_8 : decode cX10_mirror 8 = .ok (.astore_n 2, 1) := by decide +kernel
theorem dX10_mirror_9 : decode cX10_mirror 9 = .ok (.aload_n 2, 1) := by decide +kernel
theorem dX10_mirror_10 : decode cX10_mirror 10 = .ok (.ifnonnull 11, 3) := by decide +kernel
theorem dX10_mirror_13 : decode cX10_mirror 13 = .ok (.aload_n 0, 1) := by decide +kernel
theorem dX10_mirror_14 : decode cX10_mirror 14 = .ok (.iconst 0, 1) := by decide +kernel
theorem dX10_mirror_15 : decode cX10_mirror 15 = .ok (.invokevirtual 95, 3) := by decide +kernel
theorem dX10_mirror_18 : decode cX10_mirror 18 = .ok (.goto 19, 3) := by decide +kernel
theorem dX10_mirror_37 : decode cX10_mirror 37 = .ok (.ireturn, 1) := by decide +kernel
theorem dX10_turn_0 : decode cX10_turn 0 = .ok (.aload_n 0, 1) := by decide +kernel
theorem dX10_turn_1 : decode cX10_turn 1 = .ok (.getfield 19, 3) := by decide +kernel
theorem dX10_turn_4 : decode cX10_turn 4 = .ok (.iload_n 1, 1) := by decide +kernel
theorem dX10_turn_5 : decode cX10_turn 5 = .ok (.invokevirtual 110, 3) := by decide +kernel
theorem dX10_turn_8 : decode cX10_turn 8 = .ok (.astore_n 2, 1) := by decide +kernel
theorem dX10_turn_9 : decode cX10_turn 9 = .ok (.aload_n 2, 1) := by decide +kernel
theorem dX10_turn_10 : decode cX10_turn 10 = .ok (.ifnonnull 11, 3) := by decide +kernel
theorem dX10_turn_13 : decode cX10_turn 13 = .ok (.aload_n 0, 1) := by decide +kernel
theorem dX10_turn_14 : decode cX10_turn 14 = .ok (.iconst 0, 1) := by decide +kernel
theorem dX10_turn_15 : decode cX10_turn 15 = .ok (.invokevirtual 95, 3) := by decide +kernel
theorem dX10_turn_18 : decode cX10_turn 18 = .ok (.goto 19, 3) := by decide +kernel
theorem dX10_turn_37 : decode cX10_turn 37 = .ok (.ireturn, 1) := by decide +kernel
theorem dX10_join_0 : decode cX10_join 0 = .ok (.aload_n 0, 1) := by decide +kernel
theorem dX10_join_1 : decode cX10_join 1 = .ok (.getfield 19, 3) := by decide +kernel
theorem dX10_join_4 : decode cX10_join 4 = .ok (.iload_n 1, 1) := by decide +kernel
theorem dX10_join_5 : decode cX10_join 5 = .ok (.invokevirtual 110, 3) := by decide +kernel
theorem dX10_join_8 : decode cX10_join 8 = .ok (.astore_n 3, 1) := by decide +kernel
theorem dX10_join_9 : decode cX10_join 9 = .ok (.aload_n 0, 1) := by decide +kernel
theorem dX10_join_10 : decode cX10_join 10 = .ok (.getfield 19, 3) := by decide +kernel
theorem dX10_join_13 : decode cX10_join 13 = .ok (.iload_n 2, 1) := by decide +kernel
theorem dX10_join_14 : decode cX10_join 14 = .ok (.invokevirtual 110, 3) := by decide +kernel
theorem dX10_join_17 : decode cX10_join 17 = .ok (.astore 4, 2) := by decide +kernel
theorem dX10_join_19 : decode cX10_join 19 = .ok (.aload_n 3, 1) := by decide +kernel
theorem dX10_join_20 : decode cX10_join 20 = .ok (.ifnull 8, 3) := by decide +kernel
theorem dX10_join_28 : decode cX10_join 28 = .ok (.aload_n 0, 1) := by decide +kernel
theorem dX10_join_29 : decode cX10_join 29 = .ok (.iconst 0, 1) := by decide +kernel
theorem dX10_join_30 : decode cX10_join 30 = .ok (.invokevirtual 95, 3) := by decide +kernel
theorem dX10_join_33 : decode cX10_join 33 = .ok (.ireturn, 1) := by decide +kernel
theorem dX10_scale_0 : decode cX10_scale 0 = .ok (.aload_n 0, 1) := by decide +kernel
theorem dX10_scale_1 : decode cX10_scale 1 = .ok (.getfield 19, 3) := by decide +kernel
theorem dX10_scale_4 : decode cX10_scale 4 = .ok (.iload_n 1, 1) := by decide +kernel
theorem dX10_scale_5 : decode cX10_scale 5 = .ok (.invokevirtual 110, 3) := by decide +kernel
theorem dX10_scale_8 : decode cX10_scale 8 = .ok (.astore_n 3, 1) := by decide +kernel
theorem dX10_scale_9 : decode cX10_scale 9 = .ok (.aload_n 3, 1) := by decide +kernel
theorem dX10_scale_10 : decode cX10_scale 10 = .ok (.ifnonnull 9, 3) := by decide +kernel
theorem dX10_scale_13 : decode cX10_scale 13 = .ok (.aload_n 0, 1) := by decide +kernel
theorem dX10_scale_14 : decode cX10_scale 14 = .ok (.iconst 0, 1) := by decide +kernel
theorem dX10_scale_15 : decode cX10_scale 15 = .ok (.invokevirtual 95, 3) := by decide +kernel
theorem dX10_scale_18 : decode cX10_scale 18 = .ok (.ireturn, 1) := by decide +kernel
theorem dX10_weigh_0 : decode cX10_weigh 0 = .ok (.aload_n 0, 1) := by decide +kernel
theorem dX10_weigh_1 : decode cX10_weigh 1 = .ok (.getfield 19, 3) := by decide +kernel
theorem dX10_weigh_4 : decode cX10_weigh 4 = .ok (.iload_n 1, 1) := by decide +kernel
theorem dX10_weigh_5 : decode cX10_weigh 5 = .ok (.invokevirtual 110, 3) := by decide +kernel
theorem dX10_weigh_8 : decode cX10_weigh 8 = .ok (.astore 4, 2) := by decide +kernel
theorem dX10_weigh_10 : decode cX10_weigh 10 = .ok (.aload 4, 2) := by decide +kernel
theorem dX10_weigh_12 : decode cX10_weigh 12 = .ok (.ifnonnull 9, 3) := by decide +kernel
theorem dX10_weigh_15 : decode cX10_weigh 15 = .ok (.aload_n 0, 1) := by decide +kernel
theorem dX10_weigh_16 : decode cX10_weigh 16 = .ok (.iconst 0, 1) := by decide +kernel
theorem dX10_weigh_17 : decode cX10_weigh 17 = .ok (.invokevirtual 95, 3) := by decide +kernel
theorem dX10_weigh_20 : decode cX10_weigh 20 = .ok (.ireturn, 1) := by decide +kernel
theorem dX10_start_0 : decode cX10_start 0 = .ok (.aload_n 0, 1) := by decide +kernel
theorem dX10_start_1 : decode cX10_start 1 = .ok (.getfield 19, 3) := by decide +kernel
theorem dX10_start_4 : decode cX10_start 4 = .ok (.iload_n 1, 1) := by decide +kernel
theorem dX10_start_5 : decode cX10_start 5 = .ok (.invokevirtual 110, 3) := by decide +kernel
theorem dX10_start_8 : decode cX10_start 8 = .ok (.astore 4, 2) := by decide +kernel
theorem dX10_start_10 : decode cX10_start 10 = .ok (.aload 4, 2) := by decide +kernel
theorem dX10_start_12 : decode cX10_start 12 = .ok (.ifnonnull 9, 3) := by decide +kernel
theorem dX10_start_15 : decode cX10_start 15 = .ok (.aload_n 0, 1) := by decide +kernel
theorem dX10_start_16 : decode cX10_start 16 = .ok (.iconst 0, 1) := by decide +kernel
theorem dX10_start_17 : decode cX10_start 17 = .ok (.invokevirtual 95, 3) := by decide +kernel
theorem dX10_start_20 : decode cX10_start 20 = .ok (.ireturn, 1) := by decide +kernel
theorem dX10_at_0 : decode cX10_at 0 = .ok (.aload_n 0, 1) := by decide +kernel
theorem dX10_at_1 : decode cX10_at 1 = .ok (.getfield 19, 3) := by decide +kernel
theorem dX10_at_4 : decode cX10_at 4 = .ok (.iload_n 2, 1) := by decide +kernel
theorem dX10_at_5 : decode cX10_at 5 = .ok (.invokevirtual 110, 3) := by decide +kernel
theorem dX10_at_8 : decode cX10_at 8 = .ok (.astore 6, 2) := by decide +kernel
theorem dX10_at_10 : decode cX10_at 10 = .ok (.aload 6, 2) := by decide +kernel
theorem dX10_at_12 : decode cX10_at 12 = .ok (.ifnull 29, 3) := by decide +kernel
theorem dX10_at_41 : decode cX10_at 41 = .ok (.iconst (-1), 1) := by decide +kernel
theorem dX10_at_42 : decode cX10_at 42 = .ok (.ireturn, 1) := by decide +kernel
theorem dX10_series_0 : decode cX10_series 0 = .ok (.aload_n 0, 1) := by decide +kernel
theorem dX10_series_1 : decode cX10_series 1 = .ok (.getfield 19, 3) := by decide +kernel
theorem dX10_series_4 : decode cX10_series 4 = .ok (.iload_n 1, 1) := by decide +kernel
theorem dX10_series_5 : decode cX10_series 5 = .ok (.invokevirtual 110, 3) := by decide +kernel
theorem dX10_series_8 : decode cX10_series 8 = .ok (.astore 4, 2) := by decide +kernel
theorem dX10_series_10 : decode cX10_series 10 = .ok (.aload 4, 2) := by decide +kernel
theorem dX10_series_12 : decode cX10_series 12 = .ok (.ifnull 17, 3) := by decide +kernel
theorem dX10_series_29 : decode cX10_series 29 = .ok (.iconst (-1), 1) := by decide +kernel
theorem dX10_series_30 : decode cX10_series 30 = .ok (.ireturn, 1) := by decide +kernel
theorem dX10_exact_0 : decode cX10_exact 0 = .ok (.aload_n 0, 1) := by decide +kernel
theorem dX10_exact_1 : decode cX10_exact 1 = .ok (.getfield 19, 3) := by decide +kernel
theorem dX10_exact_4 : decode cX10_exact 4 = .ok (.iload_n 1, 1) := by decide +kernel
theorem dX10_exact_5 : decode cX10_exact 5 = .ok (.invokevirtual 110, 3) := by decide +kernel
theorem dX10_exact_8 : decode cX10_exact 8 = .ok (.astore 5, 2) := by decide +kernel
theorem dX10_exact_10 : decode cX10_exact 10 = .ok (.aload 5, 2) := by decide +kernel
theorem dX10_exact_12 : decode cX10_exact 12 = .ok (.ifnull 31, 3) := by decide +kernel
theorem dX10_exact_43 : decode cX10_exact 43 = .ok (.ldc2_w 205, 3) := by decide +kernel
theorem w_757 : Cond.constantLong "QuarterWalks" 205 (-1) ∈ wAll := wIn 757 (by decide +kernel) (by decide +kernel)
theorem dX10_exact_46 : decode cX10_exact 46 = .ok (.lreturn, 1) := by decide +kernel
theorem dX10_bridge_0 : decode cX10_bridge 0 = .ok (.aload_n 0, 1) := by decide +kernel
theorem dX10_bridge_1 : decode cX10_bridge 1 = .ok (.getfield 19, 3) := by decide +kernel
theorem dX10_bridge_4 : decode cX10_bridge 4 = .ok (.iload_n 1, 1) := by decide +kernel
theorem dX10_bridge_5 : decode cX10_bridge 5 = .ok (.invokevirtual 110, 3) := by decide +kernel
theorem dX10_bridge_8 : decode cX10_bridge 8 = .ok (.astore 5, 2) := by decide +kernel
theorem dX10_bridge_10 : decode cX10_bridge 10 = .ok (.aload 5, 2) := by decide +kernel
theorem dX10_bridge_12 : decode cX10_bridge 12 = .ok (.ifnull 19, 3) := by decide +kernel
theorem dX10_bridge_31 : decode cX10_bridge 31 = .ok (.iconst (-1), 1) := by decide +kernel
theorem dX10_bridge_32 : decode cX10_bridge 32 = .ok (.ireturn, 1) := by decide +kernel
theorem dX10_reflected_0 : decode cX10_reflected 0 = .ok (.aload_n 0, 1) := by decide +kernel
theorem dX10_reflected_1 : decode cX10_reflected 1 = .ok (.getfield 19, 3) := by decide +kernel
theorem dX10_reflected_4 : decode cX10_reflected 4 = .ok (.iload_n 1, 1) := by decide +kernel
theorem dX10_reflected_5 : decode cX10_reflected 5 = .ok (.invokevirtual 110, 3) := by decide +kernel
theorem dX10_reflected_8 : decode cX10_reflected 8 = .ok (.astore 5, 2) := by decide +kernel
theorem dX10_reflected_10 : decode cX10_reflected 10 = .ok (.aload 5, 2) := by decide +kernel
theorem dX10_reflected_12 : decode cX10_reflected 12 = .ok (.ifnull 31, 3) := by decide +kernel
theorem dX10_reflected_43 : decode cX10_reflected 43 = .ok (.ldc 218, 2) := by decide +kernel
theorem w_772 : Cond.constant "QuarterWalks" 218 (-1000000) ∈ wAll := wIn 772 (by decide +kernel) (by decide +kernel)
theorem dX10_reflected_45 : decode cX10_reflected 45 = .ok (.ireturn, 1) := by decide +kernel
theorem dX10_rank_0 : decode cX10_rank 0 = .ok (.aload_n 0, 1) := by decide +kernel
theorem dX10_rank_1 : decode cX10_rank 1 = .ok (.getfield 19, 3) := by decide +kernel
theorem dX10_rank_4 : decode cX10_rank 4 = .ok (.iload_n 1, 1) := by decide +kernel
theorem dX10_rank_5 : decode cX10_rank 5 = .ok (.invokevirtual 110, 3) := by decide +kernel
theorem dX10_rank_8 : decode cX10_rank 8 = .ok (.astore_n 3, 1) := by decide +kernel
theorem dX10_rank_9 : decode cX10_rank 9 = .ok (.aload_n 3, 1) := by decide +kernel
theorem dX10_rank_10 : decode cX10_rank 10 = .ok (.ifnull 13, 3) := by decide +kernel
theorem dX10_rank_23 : decode cX10_rank 23 = .ok (.iconst (-1), 1) := by decide +kernel
theorem dX10_rank_24 : decode cX10_rank 24 = .ok (.ireturn, 1) := by decide +kernel
theorem dX10_ratio_0 : decode cX10_ratio 0 = .ok (.aload_n 0, 1) := by decide +kernel
theorem dX10_ratio_1 : decode cX10_ratio 1 = .ok (.getfield 19, 3) := by decide +kernel
theorem dX10_ratio_4 : decode cX10_ratio 4 = .ok (.iload_n 1, 1) := by decide +kernel
theorem dX10_ratio_5 : decode cX10_ratio 5 = .ok (.invokevirtual 110, 3) := by decide +kernel
theorem dX10_ratio_8 : decode cX10_ratio 8 = .ok (.astore 4, 2) := by decide +kernel
theorem dX10_ratio_10 : decode cX10_ratio 10 = .ok (.aload 4, 2) := by decide +kernel
theorem dX10_ratio_12 : decode cX10_ratio 12 = .ok (.ifnull 20, 3) := by decide +kernel
theorem dX10_ratio_32 : decode cX10_ratio 32 = .ok (.iconst (-1), 1) := by decide +kernel
theorem dX10_ratio_33 : decode cX10_ratio 33 = .ok (.ireturn, 1) := by decide +kernel
theorem dX10_hankel_0 : decode cX10_hankel 0 = .ok (.aload_n 0, 1) := by decide +kernel
theorem dX10_hankel_1 : decode cX10_hankel 1 = .ok (.getfield 19, 3) := by decide +kernel
theorem dX10_hankel_4 : decode cX10_hankel 4 = .ok (.iload_n 1, 1) := by decide +kernel
theorem dX10_hankel_5 : decode cX10_hankel 5 = .ok (.invokevirtual 110, 3) := by decide +kernel
theorem dX10_hankel_8 : decode cX10_hankel 8 = .ok (.astore 4, 2) := by decide +kernel
theorem dX10_hankel_10 : decode cX10_hankel 10 = .ok (.aload 4, 2) := by decide +kernel
theorem dX10_hankel_12 : decode cX10_hankel 12 = .ok (.ifnull 20, 3) := by decide +kernel
theorem dX10_hankel_32 : decode cX10_hankel 32 = .ok (.iconst (-1), 1) := by decide +kernel
theorem dX10_hankel_33 : decode cX10_hankel 33 = .ok (.ireturn, 1) := by decide +kernel
theorem dX10_convolved_0 : decode cX10_convolved 0 = .ok (.aload_n 0, 1) := by decide +kernel
theorem dX10_convolved_1 : decode cX10_convolved 1 = .ok (.getfield 19, 3) := by decide +kernel
theorem dX10_convolved_4 : decode cX10_convolved 4 = .ok (.iload_n 1, 1) := by decide +kernel
theorem dX10_convolved_5 : decode cX10_convolved 5 = .ok (.invokevirtual 110, 3) := by decide +kernel
theorem dX10_convolved_8 : decode cX10_convolved 8 = .ok (.astore 6, 2) := by decide +kernel
theorem dX10_convolved_10 : decode cX10_convolved 10 = .ok (.aload_n 0, 1) := by decide +kernel
theorem dX10_convolved_11 : decode cX10_convolved 11 = .ok (.getfield 19, 3) := by decide +kernel
theorem dX10_convolved_14 : decode cX10_convolved 14 = .ok (.iload_n 3, 1) := by decide +kernel
theorem dX10_convolved_15 : decode cX10_convolved 15 = .ok (.invokevirtual 110, 3) := by decide +kernel
theorem dX10_convolved_18 : decode cX10_convolved 18 = .ok (.astore 7, 2) := by decide +kernel
theorem dX10_convolved_20 : decode cX10_convolved 20 = .ok (.aload 6, 2) := by decide +kernel
theorem dX10_convolved_22 : decode cX10_convolved 22 = .ok (.ifnull 31, 3) := by decide +kernel
theorem dX10_convolved_53 : decode cX10_convolved 53 = .ok (.iconst (-1), 1) := by decide +kernel
theorem dX10_convolved_54 : decode cX10_convolved 54 = .ok (.ireturn, 1) := by decide +kernel
theorem dX10_out_0 : decode cX10_out 0 = .ok (.aload_n 0, 1) := by decide +kernel
theorem dX10_out_1 : decode cX10_out 1 = .ok (.getfield 19, 3) := by decide +kernel
theorem dX10_out_4 : decode cX10_out 4 = .ok (.iload_n 1, 1) := by decide +kernel
theorem dX10_out_5 : decode cX10_out 5 = .ok (.invokevirtual 110, 3) := by decide +kernel
theorem dX10_out_8 : decode cX10_out 8 = .ok (.astore_n 3, 1) := by decide +kernel
theorem dX10_out_9 : decode cX10_out 9 = .ok (.aload_n 3, 1) := by decide +kernel
theorem dX10_out_10 : decode cX10_out 10 = .ok (.ifnull 10, 3) := by decide +kernel
theorem dX10_out_20 : decode cX10_out 20 = .ok (.iconst (-1), 1) := by decide +kernel
theorem dX10_out_21 : decode cX10_out 21 = .ok (.ireturn, 1) := by decide +kernel
theorem dX10_arches_0 : decode cX10_arches 0 = .ok (.aload_n 0, 1) := by decide +kernel
theorem dX10_arches_1 : decode cX10_arches 1 = .ok (.getfield 19, 3) := by decide +kernel
theorem dX10_arches_4 : decode cX10_arches 4 = .ok (.iload_n 1, 1) := by decide +kernel
theorem dX10_arches_5 : decode cX10_arches 5 = .ok (.invokevirtual 110, 3) := by decide +kernel
theorem dX10_arches_8 : decode cX10_arches 8 = .ok (.astore_n 3, 1) := by decide +kernel
theorem dX10_arches_9 : decode cX10_arches 9 = .ok (.aload_n 3, 1) := by decide +kernel
theorem dX10_arches_10 : decode cX10_arches 10 = .ok (.ifnull 13, 3) := by decide +kernel
theorem dX10_arches_23 : decode cX10_arches 23 = .ok (.iconst (-1), 1) := by decide +kernel
theorem dX10_arches_24 : decode cX10_arches 24 = .ok (.ireturn, 1) := by decide +kernel
theorem dX10_value_0 : decode cX10_value 0 = .ok (.aload_n 0, 1) := by decide +kernel
theorem dX10_value_1 : decode cX10_value 1 = .ok (.getfield 19, 3) := by decide +kernel
theorem dX10_value_4 : decode cX10_value 4 = .ok (.iload_n 1, 1) := by decide +kernel
theorem dX10_value_5 : decode cX10_value 5 = .ok (.invokevirtual 110, 3) := by decide +kernel
theorem dX10_value_8 : decode cX10_value 8 = .ok (.astore 5, 2) := by decide +kernel
theorem dX10_value_10 : decode cX10_value 10 = .ok (.aload 5, 2) := by decide +kernel
theorem dX10_value_12 : decode cX10_value 12 = .ok (.ifnull 31, 3) := by decide +kernel
theorem dX10_value_43 : decode cX10_value 43 = .ok (.iconst (-1), 1) := by decide +kernel
theorem dX10_value_44 : decode cX10_value 44 = .ok (.ireturn, 1) := by decide +kernel
theorem dX10_walk_0 : decode cX10_walk 0 = .ok (.aload_n 0, 1) := by decide +kernel
theorem dX10_walk_1 : decode cX10_walk 1 = .ok (.getfield 19, 3) := by decide +kernel
theorem dX10_walk_4 : decode cX10_walk 4 = .ok (.iload_n 1, 1) := by decide +kernel
theorem dX10_walk_5 : decode cX10_walk 5 = .ok (.invokevirtual 110, 3) := by decide +kernel
theorem dX10_walk_8 : decode cX10_walk 8 = .ok (.astore 7, 2) := by decide +kernel
theorem dX10_walk_10 : decode cX10_walk 10 = .ok (.aload 7, 2) := by decide +kernel
theorem dX10_walk_12 : decode cX10_walk 12 = .ok (.ifnull 22, 3) := by decide +kernel
theorem dX10_walk_34 : decode cX10_walk 34 = .ok (.ldc 218, 2) := by decide +kernel
theorem dX10_walk_36 : decode cX10_walk 36 = .ok (.ireturn, 1) := by decide +kernel
theorem dX10_drawn_0 : decode cX10_drawn 0 = .ok (.aload_n 0, 1) := by decide +kernel
theorem dX10_drawn_1 : decode cX10_drawn 1 = .ok (.getfield 19, 3) := by decide +kernel
theorem dX10_drawn_4 : decode cX10_drawn 4 = .ok (.iload_n 1, 1) := by decide +kernel
theorem dX10_drawn_5 : decode cX10_drawn 5 = .ok (.invokevirtual 110, 3) := by decide +kernel
theorem dX10_drawn_8 : decode cX10_drawn 8 = .ok (.astore 8, 2) := by decide +kernel
theorem dX10_drawn_10 : decode cX10_drawn 10 = .ok (.aload 8, 2) := by decide +kernel
theorem dX10_drawn_12 : decode cX10_drawn 12 = .ok (.ifnull 34, 3) := by decide +kernel
theorem dX10_drawn_46 : decode cX10_drawn 46 = .ok (.ldc 218, 2) := by decide +kernel
theorem dX10_drawn_48 : decode cX10_drawn 48 = .ok (.ireturn, 1) := by decide +kernel
theorem dX10_peak_0 : decode cX10_peak 0 = .ok (.aload_n 0, 1) := by decide +kernel
theorem dX10_peak_1 : decode cX10_peak 1 = .ok (.getfield 19, 3) := by decide +kernel
theorem dX10_peak_4 : decode cX10_peak 4 = .ok (.iload_n 1, 1) := by decide +kernel
theorem dX10_peak_5 : decode cX10_peak 5 = .ok (.invokevirtual 110, 3) := by decide +kernel
theorem dX10_peak_8 : decode cX10_peak 8 = .ok (.astore 4, 2) := by decide +kernel
theorem dX10_peak_10 : decode cX10_peak 10 = .ok (.aload 4, 2) := by decide +kernel
theorem dX10_peak_12 : decode cX10_peak 12 = .ok (.ifnull 22, 3) := by decide +kernel
theorem dX10_peak_34 : decode cX10_peak 34 = .ok (.ldc 218, 2) := by decide +kernel
theorem dX10_peak_36 : decode cX10_peak 36 = .ok (.ireturn, 1) := by decide +kernel
theorem dX10_points_0 : decode cX10_points 0 = .ok (.aload_n 0, 1) := by decide +kernel
theorem dX10_points_1 : decode cX10_points 1 = .ok (.getfield 19, 3) := by decide +kernel
theorem dX10_points_4 : decode cX10_points 4 = .ok (.iload_n 1, 1) := by decide +kernel
theorem dX10_points_5 : decode cX10_points 5 = .ok (.invokevirtual 110, 3) := by decide +kernel
theorem dX10_points_8 : decode cX10_points 8 = .ok (.astore_n 3, 1) := by decide +kernel
theorem dX10_points_9 : decode cX10_points 9 = .ok (.aload_n 3, 1) := by decide +kernel
theorem dX10_points_10 : decode cX10_points 10 = .ok (.ifnull 10, 3) := by decide +kernel
theorem dX10_points_20 : decode cX10_points 20 = .ok (.iconst (-1), 1) := by decide +kernel
theorem dX10_points_21 : decode cX10_points 21 = .ok (.ireturn, 1) := by decide +kernel
theorem dX10_fewest_0 : decode cX10_fewest 0 = .ok (.aload_n 0, 1) := by decide +kernel
theorem dX10_fewest_1 : decode cX10_fewest 1 = .ok (.getfield 19, 3) := by decide +kernel
theorem dX10_fewest_4 : decode cX10_fewest 4 = .ok (.iload_n 1, 1) := by decide +kernel
theorem dX10_fewest_5 : decode cX10_fewest 5 = .ok (.invokevirtual 110, 3) := by decide +kernel
theorem dX10_fewest_8 : decode cX10_fewest 8 = .ok (.astore 4, 2) := by decide +kernel
theorem dX10_fewest_10 : decode cX10_fewest 10 = .ok (.aload 4, 2) := by decide +kernel
theorem dX10_fewest_12 : decode cX10_fewest 12 = .ok (.ifnull 11, 3) := by decide +kernel
theorem dX10_fewest_23 : decode cX10_fewest 23 = .ok (.iconst (-1), 1) := by decide +kernel
theorem dX10_fewest_24 : decode cX10_fewest 24 = .ok (.ireturn, 1) := by decide +kernel
theorem dX10_period_0 : decode cX10_period 0 = .ok (.aload_n 0, 1) := by decide +kernel
theorem dX10_period_1 : decode cX10_period 1 = .ok (.getfield 19, 3) := by decide +kernel
theorem dX10_period_4 : decode cX10_period 4 = .ok (.iload_n 1, 1) := by decide +kernel
theorem dX10_period_5 : decode cX10_period 5 = .ok (.invokevirtual 110, 3) := by decide +kernel
theorem dX10_period_8 : decode cX10_period 8 = .ok (.astore_n 2, 1) := by decide +kernel
theorem dX10_period_9 : decode cX10_period 9 = .ok (.aload_n 2, 1) := by decide +kernel
theorem dX10_period_10 : decode cX10_period 10 = .ok (.ifnonnull 5, 3) := by decide +kernel
theorem dX10_period_13 : decode cX10_period 13 = .ok (.iconst (-1), 1) := by decide +kernel
theorem dX10_period_14 : decode cX10_period 14 = .ok (.ireturn, 1) := by decide +kernel
theorem dX10_meet_0 : decode cX10_meet 0 = .ok (.aload_n 0, 1) := by decide +kernel
theorem dX10_meet_1 : decode cX10_meet 1 = .ok (.getfield 19, 3) := by decide +kernel
theorem dX10_meet_4 : decode cX10_meet 4 = .ok (.iload_n 1, 1) := by decide +kernel
theorem dX10_meet_5 : decode cX10_meet 5 = .ok (.invokevirtual 110, 3) := by decide +kernel
theorem dX10_meet_8 : decode cX10_meet 8 = .ok (.astore 4, 2) := by decide +kernel
theorem dX10_meet_10 : decode cX10_meet 10 = .ok (.aload_n 0, 1) := by decide +kernel
theorem dX10_meet_11 : decode cX10_meet 11 = .ok (.getfield 19, 3) := by decide +kernel
theorem dX10_meet_14 : decode cX10_meet 14 = .ok (.iload_n 2, 1) := by decide +kernel
theorem dX10_meet_15 : decode cX10_meet 15 = .ok (.invokevirtual 110, 3) := by decide +kernel
theorem dX10_meet_18 : decode cX10_meet 18 = .ok (.astore 5, 2) := by decide +kernel
theorem dX10_meet_20 : decode cX10_meet 20 = .ok (.aload 4, 2) := by decide +kernel
theorem dX10_meet_22 : decode cX10_meet 22 = .ok (.ifnull 15, 3) := by decide +kernel
theorem dX10_meet_37 : decode cX10_meet 37 = .ok (.iconst (-1), 1) := by decide +kernel
theorem dX10_meet_38 : decode cX10_meet 38 = .ok (.ireturn, 1) := by decide +kernel
theorem dX10_kernel_0 : decode cX10_kernel 0 = .ok (.aload_n 0, 1) := by decide +kernel
theorem dX10_kernel_1 : decode cX10_kernel 1 = .ok (.getfield 19, 3) := by decide +kernel
theorem dX10_kernel_4 : decode cX10_kernel 4 = .ok (.iload_n 1, 1) := by decide +kernel
theorem dX10_kernel_5 : decode cX10_kernel 5 = .ok (.invokevirtual 110, 3) := by decide +kernel
theorem dX10_kernel_8 : decode cX10_kernel 8 = .ok (.astore 4, 2) := by decide +kernel
theorem dX10_kernel_10 : decode cX10_kernel 10 = .ok (.aload 4, 2) := by decide +kernel
theorem dX10_kernel_12 : decode cX10_kernel 12 = .ok (.ifnull 17, 3) := by decide +kernel
theorem dX10_kernel_29 : decode cX10_kernel 29 = .ok (.iconst (-1), 1) := by decide +kernel
theorem dX10_kernel_30 : decode cX10_kernel 30 = .ok (.ireturn, 1) := by decide +kernel
theorem dX10_turned_0 : decode cX10_turned 0 = .ok (.aload_n 0, 1) := by decide +kernel
theorem dX10_turned_1 : decode cX10_turned 1 = .ok (.getfield 19, 3) := by decide +kernel
theorem dX10_turned_4 : decode cX10_turned 4 = .ok (.iload_n 1, 1) := by decide +kernel
theorem dX10_turned_5 : decode cX10_turned 5 = .ok (.invokevirtual 110, 3) := by decide +kernel
theorem dX10_turned_8 : decode cX10_turned 8 = .ok (.astore 5, 2) := by decide +kernel
theorem dX10_turned_10 : decode cX10_turned 10 = .ok (.aload 5, 2) := by decide +kernel
theorem dX10_turned_12 : decode cX10_turned 12 = .ok (.ifnull 27, 3) := by decide +kernel
theorem dX10_turned_39 : decode cX10_turned 39 = .ok (.iconst (-1), 1) := by decide +kernel
theorem dX10_turned_40 : decode cX10_turned 40 = .ok (.ireturn, 1) := by decide +kernel
theorem dX10_orbit_0 : decode cX10_orbit 0 = .ok (.aload_n 0, 1) := by decide +kernel
theorem dX10_orbit_1 : decode cX10_orbit 1 = .ok (.getfield 19, 3) := by decide +kernel
theorem dX10_orbit_4 : decode cX10_orbit 4 = .ok (.iload_n 1, 1) := by decide +kernel
theorem dX10_orbit_5 : decode cX10_orbit 5 = .ok (.invokevirtual 110, 3) := by decide +kernel
theorem dX10_orbit_8 : decode cX10_orbit 8 = .ok (.astore 6, 2) := by decide +kernel
theorem dX10_orbit_10 : decode cX10_orbit 10 = .ok (.iload 4, 2) := by decide +kernel
theorem dX10_orbit_12 : decode cX10_orbit 12 = .ok (.iconst (-1), 1) := by decide +kernel
theorem dX10_orbit_13 : decode cX10_orbit 13 = .ok (.if_icmp .eq 13, 3) := by decide +kernel
theorem dX10_orbit_26 : decode cX10_orbit 26 = .ok (.iconst 1, 1) := by decide +kernel
theorem dX10_orbit_27 : decode cX10_orbit 27 = .ok (.goto 4, 3) := by decide +kernel
theorem dX10_orbit_31 : decode cX10_orbit 31 = .ok (.istore 7, 2) := by decide +kernel
theorem dX10_orbit_33 : decode cX10_orbit 33 = .ok (.aload 6, 2) := by decide +kernel
theorem dX10_orbit_35 : decode cX10_orbit 35 = .ok (.ifnull 22, 3) := by decide +kernel
theorem dX10_orbit_57 : decode cX10_orbit 57 = .ok (.bipush (-2), 2) := by decide +kernel
theorem dX10_orbit_59 : decode cX10_orbit 59 = .ok (.ireturn, 1) := by decide +kernel
theorem dX10_orbit_16 : decode cX10_orbit 16 = .ok (.iload 5, 2) := by decide +kernel
theorem dX10_orbit_18 : decode cX10_orbit 18 = .ok (.iconst 0, 1) := by decide +kernel
theorem dX10_orbit_19 : decode cX10_orbit 19 = .ok (.iconst 1, 1) := by decide +kernel
theorem dX10_orbit_20 : decode cX10_orbit 20 = .ok (.invokestatic 87, 3) := by decide +kernel
theorem w_425 : Cond.methodLink "QuarterWalks" 87 yX10_within ∈ wAll := wIn 425 (by decide +kernel) (by decide +kernel)
theorem dX10_orbit_23 : decode cX10_orbit 23 = .ok (.ifCond .eq 7, 3) := by decide +kernel
theorem dX10_orbit_30 : decode cX10_orbit 30 = .ok (.iconst 0, 1) := by decide +kernel
theorem dX10_group_0 : decode cX10_group 0 = .ok (.aload_n 0, 1) := by decide +kernel
theorem dX10_group_1 : decode cX10_group 1 = .ok (.getfield 19, 3) := by decide +kernel
theorem dX10_group_4 : decode cX10_group 4 = .ok (.iload_n 1, 1) := by decide +kernel
theorem dX10_group_5 : decode cX10_group 5 = .ok (.invokevirtual 110, 3) := by decide +kernel
theorem dX10_group_8 : decode cX10_group 8 = .ok (.astore_n 2, 1) := by decide +kernel
theorem dX10_group_9 : decode cX10_group 9 = .ok (.aload_n 2, 1) := by decide +kernel
theorem dX10_group_10 : decode cX10_group 10 = .ok (.ifnonnull 8, 3) := by decide +kernel
theorem dX10_group_13 : decode cX10_group 13 = .ok (.bipush (-2), 2) := by decide +kernel
theorem dX10_group_15 : decode cX10_group 15 = .ok (.goto 11, 3) := by decide +kernel
theorem dX10_group_26 : decode cX10_group 26 = .ok (.ireturn, 1) := by decide +kernel
theorem dX10_sum_0 : decode cX10_sum 0 = .ok (.aload_n 0, 1) := by decide +kernel
theorem dX10_sum_1 : decode cX10_sum 1 = .ok (.getfield 19, 3) := by decide +kernel
theorem dX10_sum_4 : decode cX10_sum 4 = .ok (.iload_n 1, 1) := by decide +kernel
theorem dX10_sum_5 : decode cX10_sum 5 = .ok (.invokevirtual 110, 3) := by decide +kernel
theorem dX10_sum_8 : decode cX10_sum 8 = .ok (.astore 4, 2) := by decide +kernel
theorem dX10_sum_10 : decode cX10_sum 10 = .ok (.aload 4, 2) := by decide +kernel
theorem dX10_sum_12 : decode cX10_sum 12 = .ok (.ifnull 17, 3) := by decide +kernel
theorem dX10_sum_29 : decode cX10_sum 29 = .ok (.bipush (-2), 2) := by decide +kernel
theorem dX10_sum_31 : decode cX10_sum 31 = .ok (.ireturn, 1) := by decide +kernel
theorem dX10_noUse_0 : decode cX10_noUse 0 = .ok (.aload_n 0, 1) := by decide +kernel
theorem dX10_noUse_1 : decode cX10_noUse 1 = .ok (.getfield 19, 3) := by decide +kernel
theorem dX10_noUse_4 : decode cX10_noUse 4 = .ok (.iload_n 1, 1) := by decide +kernel
theorem dX10_noUse_5 : decode cX10_noUse 5 = .ok (.invokevirtual 110, 3) := by decide +kernel
theorem dX10_noUse_8 : decode cX10_noUse 8 = .ok (.astore_n 2, 1) := by decide +kernel
theorem dX10_noUse_9 : decode cX10_noUse 9 = .ok (.aload_n 2, 1) := by decide +kernel
theorem dX10_noUse_10 : decode cX10_noUse 10 = .ok (.ifnonnull 5, 3) := by decide +kernel
theorem dX10_noUse_13 : decode cX10_noUse 13 = .ok (.iconst (-1), 1) := by decide +kernel
theorem dX10_noUse_14 : decode cX10_noUse 14 = .ok (.ireturn, 1) := by decide +kernel
theorem dX10_enough_0 : decode cX10_enough 0 = .ok (.aload_n 0, 1) := by decide +kernel
theorem dX10_enough_1 : decode cX10_enough 1 = .ok (.getfield 19, 3) := by decide +kernel
theorem dX10_enough_4 : decode cX10_enough 4 = .ok (.iload_n 1, 1) := by decide +kernel
theorem dX10_enough_5 : decode cX10_enough 5 = .ok (.invokevirtual 110, 3) := by decide +kernel
theorem dX10_enough_8 : decode cX10_enough 8 = .ok (.astore_n 2, 1) := by decide +kernel
theorem dX10_enough_9 : decode cX10_enough 9 = .ok (.aload_n 2, 1) := by decide +kernel
theorem dX10_enough_10 : decode cX10_enough 10 = .ok (.ifnonnull 5, 3) := by decide +kernel
theorem dX10_enough_13 : decode cX10_enough 13 = .ok (.iconst (-1), 1) := by decide +kernel
theorem dX10_enough_14 : decode cX10_enough 14 = .ok (.ireturn, 1) := by decide +kernel
theorem dX10_alike_0 : decode cX10_alike 0 = .ok (.aload_n 0, 1) := by decide +kernel
theorem dX10_alike_1 : decode cX10_alike 1 = .ok (.getfield 19, 3) := by decide +kernel
theorem dX10_alike_4 : decode cX10_alike 4 = .ok (.iload_n 1, 1) := by decide +kernel
theorem dX10_alike_5 : decode cX10_alike 5 = .ok (.invokevirtual 110, 3) := by decide +kernel
theorem dX10_alike_8 : decode cX10_alike 8 = .ok (.astore_n 2, 1) := by decide +kernel
theorem dX10_alike_9 : decode cX10_alike 9 = .ok (.aload_n 2, 1) := by decide +kernel
theorem dX10_alike_10 : decode cX10_alike 10 = .ok (.ifnonnull 5, 3) := by decide +kernel
theorem dX10_alike_13 : decode cX10_alike 13 = .ok (.iconst (-1), 1) := by decide +kernel
theorem dX10_alike_14 : decode cX10_alike 14 = .ok (.ireturn, 1) := by decide +kernel
theorem dX10_recurrence_0 : decode cX10_recurrence 0 = .ok (.aload_n 0, 1) := by decide +kernel
theorem dX10_recurrence_1 : decode cX10_recurrence 1 = .ok (.iload_n 1, 1) := by decide +kernel
theorem dX10_recurrence_2 : decode cX10_recurrence 2 = .ok (.iload_n 2, 1) := by decide +kernel
theorem dX10_recurrence_3 : decode cX10_recurrence 3 = .ok (.iconst 0, 1) := by decide +kernel
theorem dX10_recurrence_4 : decode cX10_recurrence 4 = .ok (.iload_n 3, 1) := by decide +kernel
theorem dX10_recurrence_5 : decode cX10_recurrence 5 = .ok (.iload 4, 2) := by decide +kernel
theorem dX10_recurrence_7 : decode cX10_recurrence 7 = .ok (.invokevirtual 328, 3) := by decide +kernel
theorem w_1026 : Cond.methodLink "QuarterWalks" 328 yX10_readies ∈ wAll := wIn 1026 (by decide +kernel) (by decide +kernel)
theorem w_27 : Cond.selects yX10_readies.cls yX10_readies yX10_readies ∈ wAll := wIn 27 (by decide +kernel) (by decide +kernel)
theorem mk_X10_readies : mk yX10_readies 5 := ⟨by decide +kernel, w_96⟩
theorem w_1028 : Cond.instanceMethod yX10_readies ∈ wAll := wIn 1028 (by decide +kernel) (by decide +kernel)
theorem w_1029 : Cond.code yX10_readies cX10_readies 7 (some .boolean) ∈ wAll := wIn 1029 (by decide +kernel) (by decide +kernel)
theorem dX10_recurrence_10 : decode cX10_recurrence 10 = .ok (.istore 7, 2) := by decide +kernel
theorem dX10_recurrence_12 : decode cX10_recurrence 12 = .ok (.iload 7, 2) := by decide +kernel
theorem dX10_recurrence_14 : decode cX10_recurrence 14 = .ok (.ifCond .eq 41, 3) := by decide +kernel
theorem dX10_recurrence_55 : decode cX10_recurrence 55 = .ok (.ldc 218, 2) := by decide +kernel
theorem dX10_recurrence_57 : decode cX10_recurrence 57 = .ok (.ireturn, 1) := by decide +kernel
theorem dX10_fails_0 : decode cX10_fails 0 = .ok (.aload_n 0, 1) := by decide +kernel
theorem dX10_fails_1 : decode cX10_fails 1 = .ok (.iload_n 1, 1) := by decide +kernel
theorem dX10_fails_2 : decode cX10_fails 2 = .ok (.iload_n 2, 1) := by decide +kernel
theorem dX10_fails_3 : decode cX10_fails 3 = .ok (.iconst 0, 1) := by decide +kernel
theorem dX10_fails_4 : decode cX10_fails 4 = .ok (.iload_n 3, 1) := by decide +kernel
theorem dX10_fails_5 : decode cX10_fails 5 = .ok (.iload 4, 2) := by decide +kernel
theorem dX10_fails_7 : decode cX10_fails 7 = .ok (.invokevirtual 328, 3) := by decide +kernel
theorem dX10_fails_10 : decode cX10_fails 10 = .ok (.ifCond .eq 16, 3) := by decide +kernel
theorem dX10_fails_26 : decode cX10_fails 26 = .ok (.ldc 218, 2) := by decide +kernel
theorem dX10_fails_28 : decode cX10_fails 28 = .ok (.ireturn, 1) := by decide +kernel
theorem dX10_equation_0 : decode cX10_equation 0 = .ok (.aload_n 0, 1) := by decide +kernel
theorem dX10_equation_1 : decode cX10_equation 1 = .ok (.iload_n 1, 1) := by decide +kernel
theorem dX10_equation_2 : decode cX10_equation 2 = .ok (.iload_n 2, 1) := by decide +kernel
theorem dX10_equation_3 : decode cX10_equation 3 = .ok (.iconst 1, 1) := by decide +kernel
theorem dX10_equation_4 : decode cX10_equation 4 = .ok (.iload_n 3, 1) := by decide +kernel
theorem dX10_equation_5 : decode cX10_equation 5 = .ok (.iload 4, 2) := by decide +kernel
theorem dX10_equation_7 : decode cX10_equation 7 = .ok (.invokevirtual 328, 3) := by decide +kernel
theorem dX10_equation_10 : decode cX10_equation 10 = .ok (.istore 7, 2) := by decide +kernel
theorem dX10_equation_12 : decode cX10_equation 12 = .ok (.iload 7, 2) := by decide +kernel
theorem dX10_equation_14 : decode cX10_equation 14 = .ok (.ifCond .eq 41, 3) := by decide +kernel
theorem dX10_equation_55 : decode cX10_equation 55 = .ok (.ldc 218, 2) := by decide +kernel
theorem dX10_equation_57 : decode cX10_equation 57 = .ok (.ireturn, 1) := by decide +kernel
theorem dX10_breaks_0 : decode cX10_breaks 0 = .ok (.aload_n 0, 1) := by decide +kernel
theorem dX10_breaks_1 : decode cX10_breaks 1 = .ok (.iload_n 1, 1) := by decide +kernel
theorem dX10_breaks_2 : decode cX10_breaks 2 = .ok (.iload_n 2, 1) := by decide +kernel
theorem dX10_breaks_3 : decode cX10_breaks 3 = .ok (.iconst 1, 1) := by decide +kernel
theorem dX10_breaks_4 : decode cX10_breaks 4 = .ok (.iload_n 3, 1) := by decide +kernel
theorem dX10_breaks_5 : decode cX10_breaks 5 = .ok (.iload 4, 2) := by decide +kernel
theorem dX10_breaks_7 : decode cX10_breaks 7 = .ok (.invokevirtual 328, 3) := by decide +kernel
theorem dX10_breaks_10 : decode cX10_breaks 10 = .ok (.ifCond .eq 16, 3) := by decide +kernel
theorem dX10_breaks_26 : decode cX10_breaks 26 = .ok (.ldc 218, 2) := by decide +kernel
theorem dX10_breaks_28 : decode cX10_breaks 28 = .ok (.ireturn, 1) := by decide +kernel
theorem dX10_least_0 : decode cX10_least 0 = .ok (.aload_n 0, 1) := by decide +kernel
theorem dX10_least_1 : decode cX10_least 1 = .ok (.getfield 19, 3) := by decide +kernel
theorem dX10_least_4 : decode cX10_least 4 = .ok (.iload_n 1, 1) := by decide +kernel
theorem dX10_least_5 : decode cX10_least 5 = .ok (.invokevirtual 110, 3) := by decide +kernel
theorem dX10_least_8 : decode cX10_least 8 = .ok (.astore 4, 2) := by decide +kernel
theorem dX10_least_10 : decode cX10_least 10 = .ok (.aload 4, 2) := by decide +kernel
theorem dX10_least_12 : decode cX10_least 12 = .ok (.ifnull 19, 3) := by decide +kernel
theorem dX10_least_31 : decode cX10_least 31 = .ok (.ldc 218, 2) := by decide +kernel
theorem dX10_least_33 : decode cX10_least 33 = .ok (.ireturn, 1) := by decide +kernel
theorem dX10_written_0 : decode cX10_written 0 = .ok (.aload_n 0, 1) := by decide +kernel
theorem dX10_written_1 : decode cX10_written 1 = .ok (.getfield 19, 3) := by decide +kernel
theorem dX10_written_4 : decode cX10_written 4 = .ok (.iload_n 1, 1) := by decide +kernel
theorem dX10_written_5 : decode cX10_written 5 = .ok (.invokevirtual 110, 3) := by decide +kernel
theorem dX10_written_8 : decode cX10_written 8 = .ok (.astore_n 3, 1) := by decide +kernel
theorem dX10_written_9 : decode cX10_written 9 = .ok (.aload_n 3, 1) := by decide +kernel
theorem dX10_written_10 : decode cX10_written 10 = .ok (.ifnonnull 5, 3) := by decide +kernel
theorem dX10_written_13 : decode cX10_written 13 = .ok (.iconst (-1), 1) := by decide +kernel
theorem dX10_written_14 : decode cX10_written 14 = .ok (.ireturn, 1) := by decide +kernel
theorem dX11_isGuess_0 : decode cX11_isGuess 0 = .ok (.aload_n 0, 1) := by decide +kernel
theorem dX11_isGuess_1 : decode cX11_isGuess 1 = .ok (.iload_n 1, 1) := by decide +kernel
theorem dX11_isGuess_2 : decode cX11_isGuess 2 = .ok (.invokevirtual 171, 3) := by decide +kernel
theorem w_1624 : Cond.methodLink "QuarterWalksModel" 171 yX11_isSet ∈ wAll := wIn 1624 (by decide +kernel) (by decide +kernel)
theorem w_51 : Cond.selects yX11_isSet.cls yX11_isSet yX11_isSet ∈ wAll := wIn 51 (by decide +kernel) (by decide +kernel)
theorem mk_X11_isSet : mk yX11_isSet 1 := ⟨by decide +kernel, w_110⟩
theorem w_1626 : Cond.instanceMethod yX11_isSet ∈ wAll := wIn 1626 (by decide +kernel) (by decide +kernel)
theorem w_1627 : Cond.code yX11_isSet cX11_isSet 2 (some .boolean) ∈ wAll := wIn 1627 (by decide +kernel) (by decide +kernel)
theorem dX11_isGuess_5 : decode cX11_isGuess 5 = .ok (.ifCond .eq 65, 3) := by decide +kernel
theorem dX11_isGuess_70 : decode cX11_isGuess 70 = .ok (.iconst 0, 1) := by decide +kernel
theorem dX11_isGuess_71 : decode cX11_isGuess 71 = .ok (.ireturn, 1) := by decide +kernel
theorem dX11_numberOf_0 : decode cX11_numberOf 0 = .ok (.aload_n 0, 1) := by decide +kernel
theorem dX11_numberOf_1 : decode cX11_numberOf 1 = .ok (.iload_n 1, 1) := by decide +kernel
theorem dX11_numberOf_2 : decode cX11_numberOf 2 = .ok (.iload_n 2, 1) := by decide +kernel
theorem dX11_numberOf_3 : decode cX11_numberOf 3 = .ok (.iload_n 3, 1) := by decide +kernel
theorem dX11_numberOf_4 : decode cX11_numberOf 4 = .ok (.iload 4, 2) := by decide +kernel
theorem dX11_numberOf_6 : decode cX11_numberOf 6 = .ok (.iload 5, 2) := by decide +kernel
theorem dX11_numberOf_8 : decode cX11_numberOf 8 = .ok (.invokevirtual 396, 3) := by decide +kernel
theorem w_1940 : Cond.methodLink "QuarterWalksModel" 396 yX11_isGuess ∈ wAll := wIn 1940 (by decide +kernel) (by decide +kernel)
theorem w_78 : Cond.selects yX11_isGuess.cls yX11_isGuess yX11_isGuess ∈ wAll := wIn 78 (by decide +kernel) (by decide +kernel)
theorem mk_X11_isGuess : mk yX11_isGuess 5 := ⟨by decide +kernel, w_110⟩
theorem w_1942 : Cond.instanceMethod yX11_isGuess ∈ wAll := wIn 1942 (by decide +kernel) (by decide +kernel)
theorem w_1943 : Cond.code yX11_isGuess cX11_isGuess 6 (some .boolean) ∈ wAll := wIn 1943 (by decide +kernel) (by decide +kernel)
theorem dX11_numberOf_11 : decode cX11_numberOf 11 = .ok (.ifCond .eq 29, 3) := by decide +kernel
theorem dX11_numberOf_40 : decode cX11_numberOf 40 = .ok (.ldc_w 286, 3) := by decide +kernel
theorem w_1791 : Cond.constant "QuarterWalksModel" 286 (-1000000) ∈ wAll := wIn 1791 (by decide +kernel) (by decide +kernel)
theorem dX11_numberOf_43 : decode cX11_numberOf 43 = .ok (.ireturn, 1) := by decide +kernel
theorem dX11_failOf_0 : decode cX11_failOf 0 = .ok (.aload_n 0, 1) := by decide +kernel
theorem dX11_failOf_1 : decode cX11_failOf 1 = .ok (.iload_n 1, 1) := by decide +kernel
theorem dX11_failOf_2 : decode cX11_failOf 2 = .ok (.iload_n 2, 1) := by decide +kernel
theorem dX11_failOf_3 : decode cX11_failOf 3 = .ok (.iload_n 3, 1) := by decide +kernel
theorem dX11_failOf_4 : decode cX11_failOf 4 = .ok (.iload 4, 2) := by decide +kernel
theorem dX11_failOf_6 : decode cX11_failOf 6 = .ok (.iload 5, 2) := by decide +kernel
theorem dX11_failOf_8 : decode cX11_failOf 8 = .ok (.invokevirtual 396, 3) := by decide +kernel
theorem dX11_failOf_11 : decode cX11_failOf 11 = .ok (.ifCond .ne 7, 3) := by decide +kernel
theorem dX11_failOf_14 : decode cX11_failOf 14 = .ok (.ldc_w 286, 3) := by decide +kernel
theorem dX11_failOf_17 : decode cX11_failOf 17 = .ok (.ireturn, 1) := by decide +kernel
theorem dX11_drop_0 : decode cX11_drop 0 = .ok (.aload_n 0, 1) := by decide +kernel
theorem dX11_drop_1 : decode cX11_drop 1 = .ok (.iconst 0, 1) := by decide +kernel
theorem dX11_drop_2 : decode cX11_drop 2 = .ok (.putfield 75, 3) := by decide +kernel
theorem w_1433 : Cond.fieldLink "QuarterWalksModel" 75 "QuarterWalksModel" "thrown" "I" ∈ wAll := wIn 1433 (by decide +kernel) (by decide +kernel)
theorem flw_X11_75 : flw RX11 75 12 0 (.int) := ⟨RX11, TX11, 32, tyX11, rfl, inA_X11, by decide, w_1433, tyX11_ok, nmX11, by decide +kernel, Or.inl rfl⟩
theorem dX11_drop_5 : decode cX11_drop 5 = .ok (.aload_n 0, 1) := by decide +kernel
theorem dX11_drop_6 : decode cX11_drop 6 = .ok (.iload_n 1, 1) := by decide +kernel
theorem dX11_drop_7 : decode cX11_drop 7 = .ok (.invokevirtual 171, 3) := by decide +kernel
theorem dX11_drop_10 : decode cX11_drop 10 = .ok (.ifCond .ne 9, 3) := by decide +kernel
theorem dX11_drop_13 : decode cX11_drop 13 = .ok (.aload_n 0, 1) := by decide +kernel
theorem dX11_drop_14 : decode cX11_drop 14 = .ok (.iconst 0, 1) := by decide +kernel
theorem dX11_drop_15 : decode cX11_drop 15 = .ok (.invokevirtual 165, 3) := by decide +kernel
theorem w_1608 : Cond.methodLink "QuarterWalksModel" 165 yX11_refuse ∈ wAll := wIn 1608 (by decide +kernel) (by decide +kernel)
theorem w_48 : Cond.selects yX11_refuse.cls yX11_refuse yX11_refuse ∈ wAll := wIn 48 (by decide +kernel) (by decide +kernel)
theorem mk_X11_refuse : mk yX11_refuse 1 := ⟨by decide +kernel, w_110⟩
theorem w_1610 : Cond.instanceMethod yX11_refuse ∈ wAll := wIn 1610 (by decide +kernel) (by decide +kernel)
theorem w_1611 : Cond.code yX11_refuse cX11_refuse 2 (some .int) ∈ wAll := wIn 1611 (by decide +kernel) (by decide +kernel)
theorem dX11_drop_18 : decode cX11_drop 18 = .ok (.ireturn, 1) := by decide +kernel
theorem dX11_mirror_0 : decode cX11_mirror 0 = .ok (.aload_n 0, 1) := by decide +kernel
theorem dX11_mirror_1 : decode cX11_mirror 1 = .ok (.iconst 0, 1) := by decide +kernel
theorem dX11_mirror_2 : decode cX11_mirror 2 = .ok (.putfield 75, 3) := by decide +kernel
theorem dX11_mirror_5 : decode cX11_mirror 5 = .ok (.aload_n 0, 1) := by decide +kernel
theorem dX11_mirror_6 : decode cX11_mirror 6 = .ok (.iload_n 1, 1) := by decide +kernel
theorem dX11_mirror_7 : decode cX11_mirror 7 = .ok (.invokevirtual 171, 3) := by decide +kernel
theorem dX11_mirror_10 : decode cX11_mirror 10 = .ok (.ifCond .ne 9, 3) := by decide +kernel
theorem dX11_mirror_13 : decode cX11_mirror 13 = .ok (.aload_n 0, 1) := by decide +kernel
theorem dX11_mirror_14 : decode cX11_mirror 14 = .ok (.iconst 0, 1) := by decide +kernel
theorem dX11_mirror_15 : decode cX11_mirror 15 = .ok (.invokevirtual 165, 3) := by decide +kernel
theorem dX11_mirror_18 : decode cX11_mirror 18 = .ok (.ireturn, 1) := by decide +kernel
theorem dX11_turn_0 : decode cX11_turn 0 = .ok (.aload_n 0, 1) := by decide +kernel
theorem dX11_turn_1 : decode cX11_turn 1 = .ok (.iconst 0, 1) := by decide +kernel
theorem dX11_turn_2 : decode cX11_turn 2 = .ok (.putfield 75, 3) := by decide +kernel
theorem dX11_turn_5 : decode cX11_turn 5 = .ok (.aload_n 0, 1) := by decide +kernel
theorem dX11_turn_6 : decode cX11_turn 6 = .ok (.iload_n 1, 1) := by decide +kernel
theorem dX11_turn_7 : decode cX11_turn 7 = .ok (.invokevirtual 171, 3) := by decide +kernel
theorem dX11_turn_10 : decode cX11_turn 10 = .ok (.ifCond .ne 9, 3) := by decide +kernel
theorem dX11_turn_13 : decode cX11_turn 13 = .ok (.aload_n 0, 1) := by decide +kernel
theorem dX11_turn_14 : decode cX11_turn 14 = .ok (.iconst 0, 1) := by decide +kernel
theorem dX11_turn_15 : decode cX11_turn 15 = .ok (.invokevirtual 165, 3) := by decide +kernel
theorem dX11_turn_18 : decode cX11_turn 18 = .ok (.ireturn, 1) := by decide +kernel
theorem dX11_join_0 : decode cX11_join 0 = .ok (.aload_n 0, 1) := by decide +kernel
theorem dX11_join_1 : decode cX11_join 1 = .ok (.iconst 0, 1) := by decide +kernel
theorem dX11_join_2 : decode cX11_join 2 = .ok (.putfield 75, 3) := by decide +kernel
theorem dX11_join_5 : decode cX11_join 5 = .ok (.aload_n 0, 1) := by decide +kernel
theorem dX11_join_6 : decode cX11_join 6 = .ok (.iload_n 1, 1) := by decide +kernel
theorem dX11_join_7 : decode cX11_join 7 = .ok (.invokevirtual 171, 3) := by decide +kernel
theorem dX11_join_10 : decode cX11_join 10 = .ok (.ifCond .eq 11, 3) := by decide +kernel
theorem dX11_join_21 : decode cX11_join 21 = .ok (.aload_n 0, 1) := by decide +kernel
theorem dX11_join_22 : decode cX11_join 22 = .ok (.iconst 0, 1) := by decide +kernel
theorem dX11_join_23 : decode cX11_join 23 = .ok (.invokevirtual 165, 3) := by decide +kernel
theorem dX11_join_26 : decode cX11_join 26 = .ok (.ireturn, 1) := by decide +kernel
theorem dX11_scale_0 : decode cX11_scale 0 = .ok (.aload_n 0, 1) := by decide +kernel
theorem dX11_scale_1 : decode cX11_scale 1 = .ok (.iconst 0, 1) := by decide +kernel
theorem dX11_scale_2 : decode cX11_scale 2 = .ok (.putfield 75, 3) := by decide +kernel
theorem dX11_scale_5 : decode cX11_scale 5 = .ok (.aload_n 0, 1) := by decide +kernel
theorem dX11_scale_6 : decode cX11_scale 6 = .ok (.iload_n 1, 1) := by decide +kernel
theorem dX11_scale_7 : decode cX11_scale 7 = .ok (.invokevirtual 171, 3) := by decide +kernel
theorem dX11_scale_10 : decode cX11_scale 10 = .ok (.ifCond .ne 9, 3) := by decide +kernel
theorem dX11_scale_13 : decode cX11_scale 13 = .ok (.aload_n 0, 1) := by decide +kernel
theorem dX11_scale_14 : decode cX11_scale 14 = .ok (.iconst 0, 1) := by decide +kernel
theorem dX11_scale_15 : decode cX11_scale 15 = .ok (.invokevirtual 165, 3) := by decide +kernel
theorem dX11_scale_18 : decode cX11_scale 18 = .ok (.ireturn, 1) := by decide +kernel
theorem dX11_weigh_0 : decode cX11_weigh 0 = .ok (.aload_n 0, 1) := by decide +kernel
theorem dX11_weigh_1 : decode cX11_weigh 1 = .ok (.iconst 0, 1) := by decide +kernel
theorem dX11_weigh_2 : decode cX11_weigh 2 = .ok (.putfield 75, 3) := by decide +kernel
theorem dX11_weigh_5 : decode cX11_weigh 5 = .ok (.aload_n 0, 1) := by decide +kernel
theorem dX11_weigh_6 : decode cX11_weigh 6 = .ok (.iload_n 1, 1) := by decide +kernel
theorem dX11_weigh_7 : decode cX11_weigh 7 = .ok (.invokevirtual 171, 3) := by decide +kernel
theorem dX11_weigh_10 : decode cX11_weigh 10 = .ok (.ifCond .ne 9, 3) := by decide +kernel
theorem dX11_weigh_13 : decode cX11_weigh 13 = .ok (.aload_n 0, 1) := by decide +kernel
theorem dX11_weigh_14 : decode cX11_weigh 14 = .ok (.iconst 0, 1) := by decide +kernel
theorem dX11_weigh_15 : decode cX11_weigh 15 = .ok (.invokevirtual 165, 3) := by decide +kernel
theorem dX11_weigh_18 : decode cX11_weigh 18 = .ok (.ireturn, 1) := by decide +kernel
theorem dX11_start_0 : decode cX11_start 0 = .ok (.aload_n 0, 1) := by decide +kernel
theorem dX11_start_1 : decode cX11_start 1 = .ok (.iconst 0, 1) := by decide +kernel
theorem dX11_start_2 : decode cX11_start 2 = .ok (.putfield 75, 3) := by decide +kernel
theorem dX11_start_5 : decode cX11_start 5 = .ok (.aload_n 0, 1) := by decide +kernel
theorem dX11_start_6 : decode cX11_start 6 = .ok (.iload_n 1, 1) := by decide +kernel
theorem dX11_start_7 : decode cX11_start 7 = .ok (.invokevirtual 171, 3) := by decide +kernel
theorem dX11_start_10 : decode cX11_start 10 = .ok (.ifCond .ne 9, 3) := by decide +kernel
theorem dX11_start_13 : decode cX11_start 13 = .ok (.aload_n 0, 1) := by decide +kernel
theorem dX11_start_14 : decode cX11_start 14 = .ok (.iconst 0, 1) := by decide +kernel
theorem dX11_start_15 : decode cX11_start 15 = .ok (.invokevirtual 165, 3) := by decide +kernel
theorem dX11_start_18 : decode cX11_start 18 = .ok (.ireturn, 1) := by decide +kernel
theorem dX11_at_0 : decode cX11_at 0 = .ok (.aload_n 0, 1) := by decide +kernel
theorem dX11_at_1 : decode cX11_at 1 = .ok (.iconst 0, 1) := by decide +kernel
theorem dX11_at_2 : decode cX11_at 2 = .ok (.putfield 75, 3) := by decide +kernel
theorem dX11_at_5 : decode cX11_at 5 = .ok (.iload_n 1, 1) := by decide +kernel
theorem dX11_at_6 : decode cX11_at 6 = .ok (.i2l, 1) := by decide +kernel
theorem dX11_at_7 : decode cX11_at 7 = .ok (.lconst 0, 1) := by decide +kernel
theorem dX11_at_8 : decode cX11_at 8 = .ok (.ldc2_w 179, 3) := by decide +kernel
theorem w_1651 : Cond.constantLong "QuarterWalksModel" 179 2 ∈ wAll := wIn 1651 (by decide +kernel) (by decide +kernel)
theorem dX11_at_11 : decode cX11_at 11 = .ok (.invokestatic 158, 3) := by decide +kernel
theorem dX11_at_14 : decode cX11_at 14 = .ok (.ifCond .eq 28, 3) := by decide +kernel
theorem dX11_at_42 : decode cX11_at 42 = .ok (.iconst (-1), 1) := by decide +kernel
theorem dX11_at_43 : decode cX11_at 43 = .ok (.ireturn, 1) := by decide +kernel
theorem dX11_at_17 : decode cX11_at 17 = .ok (.aload_n 0, 1) := by decide +kernel
theorem dX11_at_18 : decode cX11_at 18 = .ok (.iload_n 2, 1) := by decide +kernel
theorem dX11_at_19 : decode cX11_at 19 = .ok (.invokevirtual 171, 3) := by decide +kernel
theorem dX11_at_22 : decode cX11_at 22 = .ok (.ifCond .eq 20, 3) := by decide +kernel
theorem dX11_series_0 : decode cX11_series 0 = .ok (.aload_n 0, 1) := by decide +kernel
theorem dX11_series_1 : decode cX11_series 1 = .ok (.iconst 0, 1) := by decide +kernel
theorem dX11_series_2 : decode cX11_series 2 = .ok (.putfield 75, 3) := by decide +kernel
theorem dX11_series_5 : decode cX11_series 5 = .ok (.aload_n 0, 1) := by decide +kernel
theorem dX11_series_6 : decode cX11_series 6 = .ok (.iload_n 1, 1) := by decide +kernel
theorem dX11_series_7 : decode cX11_series 7 = .ok (.invokevirtual 171, 3) := by decide +kernel
theorem dX11_series_10 : decode cX11_series 10 = .ok (.ifCond .eq 22, 3) := by decide +kernel
theorem dX11_series_32 : decode cX11_series 32 = .ok (.iconst (-1), 1) := by decide +kernel
theorem dX11_series_33 : decode cX11_series 33 = .ok (.ireturn, 1) := by decide +kernel
theorem dX11_exact_0 : decode cX11_exact 0 = .ok (.aload_n 0, 1) := by decide +kernel
theorem dX11_exact_1 : decode cX11_exact 1 = .ok (.iconst 0, 1) := by decide +kernel
theorem dX11_exact_2 : decode cX11_exact 2 = .ok (.putfield 75, 3) := by decide +kernel
theorem dX11_exact_5 : decode cX11_exact 5 = .ok (.aload_n 0, 1) := by decide +kernel
theorem dX11_exact_6 : decode cX11_exact 6 = .ok (.iload_n 1, 1) := by decide +kernel
theorem dX11_exact_7 : decode cX11_exact 7 = .ok (.invokevirtual 171, 3) := by decide +kernel
theorem dX11_exact_10 : decode cX11_exact 10 = .ok (.ifCond .eq 28, 3) := by decide +kernel
theorem dX11_exact_38 : decode cX11_exact 38 = .ok (.ldc2_w 270, 3) := by decide +kernel
theorem w_1752 : Cond.constantLong "QuarterWalksModel" 270 (-1) ∈ wAll := wIn 1752 (by decide +kernel) (by decide +kernel)
theorem dX11_exact_41 : decode cX11_exact 41 = .ok (.lreturn, 1) := by decide +kernel
theorem dX11_bridge_0 : decode cX11_bridge 0 = .ok (.aload_n 0, 1) := by decide +kernel
theorem dX11_bridge_1 : decode cX11_bridge 1 = .ok (.iconst 0, 1) := by decide +kernel
theorem dX11_bridge_2 : decode cX11_bridge 2 = .ok (.putfield 75, 3) := by decide +kernel
theorem dX11_bridge_5 : decode cX11_bridge 5 = .ok (.aload_n 0, 1) := by decide +kernel
theorem dX11_bridge_6 : decode cX11_bridge 6 = .ok (.iload_n 1, 1) := by decide +kernel
theorem dX11_bridge_7 : decode cX11_bridge 7 = .ok (.invokevirtual 171, 3) := by decide +kernel
theorem dX11_bridge_10 : decode cX11_bridge 10 = .ok (.ifCond .eq 19, 3) := by decide +kernel
theorem dX11_bridge_29 : decode cX11_bridge 29 = .ok (.iconst (-1), 1) := by decide +kernel
theorem dX11_bridge_30 : decode cX11_bridge 30 = .ok (.ireturn, 1) := by decide +kernel
theorem dX11_reflected_0 : decode cX11_reflected 0 = .ok (.aload_n 0, 1) := by decide +kernel
theorem dX11_reflected_1 : decode cX11_reflected 1 = .ok (.iconst 0, 1) := by decide +kernel
theorem dX11_reflected_2 : decode cX11_reflected 2 = .ok (.putfield 75, 3) := by decide +kernel
theorem dX11_reflected_5 : decode cX11_reflected 5 = .ok (.aload_n 0, 1) := by decide +kernel
theorem dX11_reflected_6 : decode cX11_reflected 6 = .ok (.iload_n 1, 1) := by decide +kernel
theorem dX11_reflected_7 : decode cX11_reflected 7 = .ok (.invokevirtual 171, 3) := by decide +kernel
theorem dX11_reflected_10 : decode cX11_reflected 10 = .ok (.ifCond .eq 43, 3) := by decide +kernel
theorem dX11_reflected_53 : decode cX11_reflected 53 = .ok (.ldc_w 286, 3) := by decide +kernel
theorem dX11_reflected_56 : decode cX11_reflected 56 = .ok (.ireturn, 1) := by decide +kernel
theorem dX11_rank_0 : decode cX11_rank 0 = .ok (.aload_n 0, 1) := by decide +kernel
theorem dX11_rank_1 : decode cX11_rank 1 = .ok (.iconst 0, 1) := by decide +kernel
theorem dX11_rank_2 : decode cX11_rank 2 = .ok (.putfield 75, 3) := by decide +kernel
theorem dX11_rank_5 : decode cX11_rank 5 = .ok (.aload_n 0, 1) := by decide +kernel
theorem dX11_rank_6 : decode cX11_rank 6 = .ok (.iload_n 1, 1) := by decide +kernel
theorem dX11_rank_7 : decode cX11_rank 7 = .ok (.invokevirtual 171, 3) := by decide +kernel
theorem dX11_rank_10 : decode cX11_rank 10 = .ok (.ifCond .eq 15, 3) := by decide +kernel
theorem dX11_rank_25 : decode cX11_rank 25 = .ok (.iconst (-1), 1) := by decide +kernel
theorem dX11_rank_26 : decode cX11_rank 26 = .ok (.ireturn, 1) := by decide +kernel
theorem dX11_ratio_0 : decode cX11_ratio 0 = .ok (.aload_n 0, 1) := by decide +kernel
theorem dX11_ratio_1 : decode cX11_ratio 1 = .ok (.iconst 0, 1) := by decide +kernel
theorem dX11_ratio_2 : decode cX11_ratio 2 = .ok (.putfield 75, 3) := by decide +kernel
theorem dX11_ratio_5 : decode cX11_ratio 5 = .ok (.aload_n 0, 1) := by decide +kernel
theorem dX11_ratio_6 : decode cX11_ratio 6 = .ok (.iload_n 1, 1) := by decide +kernel
theorem dX11_ratio_7 : decode cX11_ratio 7 = .ok (.invokevirtual 171, 3) := by decide +kernel
theorem dX11_ratio_10 : decode cX11_ratio 10 = .ok (.ifCond .eq 27, 3) := by decide +kernel
theorem dX11_ratio_37 : decode cX11_ratio 37 = .ok (.iconst (-1), 1) := by decide +kernel
theorem dX11_ratio_38 : decode cX11_ratio 38 = .ok (.ireturn, 1) := by decide +kernel
theorem dX11_hankel_0 : decode cX11_hankel 0 = .ok (.aload_n 0, 1) := by decide +kernel
theorem dX11_hankel_1 : decode cX11_hankel 1 = .ok (.iconst 0, 1) := by decide +kernel
theorem dX11_hankel_2 : decode cX11_hankel 2 = .ok (.putfield 75, 3) := by decide +kernel
theorem dX11_hankel_5 : decode cX11_hankel 5 = .ok (.aload_n 0, 1) := by decide +kernel
theorem dX11_hankel_6 : decode cX11_hankel 6 = .ok (.iload_n 1, 1) := by decide +kernel
theorem dX11_hankel_7 : decode cX11_hankel 7 = .ok (.invokevirtual 171, 3) := by decide +kernel
theorem dX11_hankel_10 : decode cX11_hankel 10 = .ok (.ifCond .eq 27, 3) := by decide +kernel
theorem dX11_hankel_37 : decode cX11_hankel 37 = .ok (.iconst (-1), 1) := by decide +kernel
theorem dX11_hankel_38 : decode cX11_hankel 38 = .ok (.ireturn, 1) := by decide +kernel
theorem dX11_convolved_0 : decode cX11_convolved 0 = .ok (.aload_n 0, 1) := by decide +kernel
theorem dX11_convolved_1 : decode cX11_convolved 1 = .ok (.iconst 0, 1) := by decide +kernel
theorem dX11_convolved_2 : decode cX11_convolved 2 = .ok (.putfield 75, 3) := by decide +kernel
theorem dX11_convolved_5 : decode cX11_convolved 5 = .ok (.aload_n 0, 1) := by decide +kernel
theorem dX11_convolved_6 : decode cX11_convolved 6 = .ok (.iload_n 1, 1) := by decide +kernel
theorem dX11_convolved_7 : decode cX11_convolved 7 = .ok (.invokevirtual 171, 3) := by decide +kernel
theorem dX11_convolved_10 : decode cX11_convolved 10 = .ok (.ifCond .eq 44, 3) := by decide +kernel
theorem dX11_convolved_54 : decode cX11_convolved 54 = .ok (.iconst (-1), 1) := by decide +kernel
theorem dX11_convolved_55 : decode cX11_convolved 55 = .ok (.ireturn, 1) := by decide +kernel
theorem dX11_out_0 : decode cX11_out 0 = .ok (.aload_n 0, 1) := by decide +kernel
theorem dX11_out_1 : decode cX11_out 1 = .ok (.iconst 0, 1) := by decide +kernel
theorem dX11_out_2 : decode cX11_out 2 = .ok (.putfield 75, 3) := by decide +kernel
theorem dX11_out_5 : decode cX11_out 5 = .ok (.aload_n 0, 1) := by decide +kernel
theorem dX11_out_6 : decode cX11_out 6 = .ok (.iload_n 1, 1) := by decide +kernel
theorem dX11_out_7 : decode cX11_out 7 = .ok (.invokevirtual 171, 3) := by decide +kernel
theorem dX11_out_10 : decode cX11_out 10 = .ok (.ifCond .eq 10, 3) := by decide +kernel
theorem dX11_out_20 : decode cX11_out 20 = .ok (.iconst (-1), 1) := by decide +kernel
theorem dX11_out_21 : decode cX11_out 21 = .ok (.ireturn, 1) := by decide +kernel
theorem dX11_arches_0 : decode cX11_arches 0 = .ok (.aload_n 0, 1) := by decide +kernel
theorem dX11_arches_1 : decode cX11_arches 1 = .ok (.iconst 0, 1) := by decide +kernel
theorem dX11_arches_2 : decode cX11_arches 2 = .ok (.putfield 75, 3) := by decide +kernel
theorem dX11_arches_5 : decode cX11_arches 5 = .ok (.aload_n 0, 1) := by decide +kernel
theorem dX11_arches_6 : decode cX11_arches 6 = .ok (.iload_n 1, 1) := by decide +kernel
theorem dX11_arches_7 : decode cX11_arches 7 = .ok (.invokevirtual 171, 3) := by decide +kernel
theorem dX11_arches_10 : decode cX11_arches 10 = .ok (.ifCond .eq 15, 3) := by decide +kernel
theorem dX11_arches_25 : decode cX11_arches 25 = .ok (.iconst (-1), 1) := by decide +kernel
theorem dX11_arches_26 : decode cX11_arches 26 = .ok (.ireturn, 1) := by decide +kernel
theorem dX11_value_0 : decode cX11_value 0 = .ok (.aload_n 0, 1) := by decide +kernel
theorem dX11_value_1 : decode cX11_value 1 = .ok (.iconst 0, 1) := by decide +kernel
theorem dX11_value_2 : decode cX11_value 2 = .ok (.putfield 75, 3) := by decide +kernel
theorem dX11_value_5 : decode cX11_value 5 = .ok (.aload_n 0, 1) := by decide +kernel
theorem dX11_value_6 : decode cX11_value 6 = .ok (.iload_n 1, 1) := by decide +kernel
theorem dX11_value_7 : decode cX11_value 7 = .ok (.invokevirtual 171, 3) := by decide +kernel
theorem dX11_value_10 : decode cX11_value 10 = .ok (.ifCond .eq 35, 3) := by decide +kernel
theorem dX11_value_45 : decode cX11_value 45 = .ok (.iconst (-1), 1) := by decide +kernel
theorem dX11_value_46 : decode cX11_value 46 = .ok (.ireturn, 1) := by decide +kernel
theorem dX11_walk_0 : decode cX11_walk 0 = .ok (.aload_n 0, 1) := by decide +kernel
theorem dX11_walk_1 : decode cX11_walk 1 = .ok (.iconst 0, 1) := by decide +kernel
theorem dX11_walk_2 : decode cX11_walk 2 = .ok (.putfield 75, 3) := by decide +kernel
theorem dX11_walk_5 : decode cX11_walk 5 = .ok (.aload_n 0, 1) := by decide +kernel
theorem dX11_walk_6 : decode cX11_walk 6 = .ok (.iload_n 1, 1) := by decide +kernel
theorem dX11_walk_7 : decode cX11_walk 7 = .ok (.invokevirtual 171, 3) := by decide +kernel
theorem dX11_walk_10 : decode cX11_walk 10 = .ok (.ifCond .eq 25, 3) := by decide +kernel
theorem dX11_walk_35 : decode cX11_walk 35 = .ok (.ldc_w 286, 3) := by decide +kernel
theorem dX11_walk_38 : decode cX11_walk 38 = .ok (.ireturn, 1) := by decide +kernel
theorem dX11_drawn_0 : decode cX11_drawn 0 = .ok (.aload_n 0, 1) := by decide +kernel
theorem dX11_drawn_1 : decode cX11_drawn 1 = .ok (.iconst 0, 1) := by decide +kernel
theorem dX11_drawn_2 : decode cX11_drawn 2 = .ok (.putfield 75, 3) := by decide +kernel
theorem dX11_drawn_5 : decode cX11_drawn 5 = .ok (.aload_n 0, 1) := by decide +kernel
theorem dX11_drawn_6 : decode cX11_drawn 6 = .ok (.iload_n 1, 1) := by decide +kernel
theorem dX11_drawn_7 : decode cX11_drawn 7 = .ok (.invokevirtual 171, 3) := by decide +kernel
theorem dX11_drawn_10 : decode cX11_drawn 10 = .ok (.ifCond .eq 33, 3) := by decide +kernel
theorem dX11_drawn_43 : decode cX11_drawn 43 = .ok (.ldc_w 286, 3) := by decide +kernel
theorem dX11_drawn_46 : decode cX11_drawn 46 = .ok (.ireturn, 1) := by decide +kernel
theorem dX11_peak_0 : decode cX11_peak 0 = .ok (.aload_n 0, 1) := by decide +kernel
theorem dX11_peak_1 : decode cX11_peak 1 = .ok (.iconst 0, 1) := by decide +kernel
theorem dX11_peak_2 : decode cX11_peak 2 = .ok (.putfield 75, 3) := by decide +kernel
theorem dX11_peak_5 : decode cX11_peak 5 = .ok (.aload_n 0, 1) := by decide +kernel
theorem dX11_peak_6 : decode cX11_peak 6 = .ok (.iload_n 1, 1) := by decide +kernel
theorem dX11_peak_7 : decode cX11_peak 7 = .ok (.invokevirtual 171, 3) := by decide +kernel
theorem dX11_peak_10 : decode cX11_peak 10 = .ok (.ifCond .eq 22, 3) := by decide +kernel
theorem dX11_peak_32 : decode cX11_peak 32 = .ok (.ldc_w 286, 3) := by decide +kernel
theorem dX11_peak_35 : decode cX11_peak 35 = .ok (.ireturn, 1) := by decide +kernel
theorem dX11_points_0 : decode cX11_points 0 = .ok (.aload_n 0, 1) := by decide +kernel
theorem dX11_points_1 : decode cX11_points 1 = .ok (.iconst 0, 1) := by decide +kernel
theorem dX11_points_2 : decode cX11_points 2 = .ok (.putfield 75, 3) := by decide +kernel
theorem dX11_points_5 : decode cX11_points 5 = .ok (.aload_n 0, 1) := by decide +kernel
theorem dX11_points_6 : decode cX11_points 6 = .ok (.iload_n 1, 1) := by decide +kernel
theorem dX11_points_7 : decode cX11_points 7 = .ok (.invokevirtual 171, 3) := by decide +kernel
theorem dX11_points_10 : decode cX11_points 10 = .ok (.ifCond .eq 10, 3) := by decide +kernel
theorem dX11_points_20 : decode cX11_points 20 = .ok (.iconst (-1), 1) := by decide +kernel
theorem dX11_points_21 : decode cX11_points 21 = .ok (.ireturn, 1) := by decide +kernel
theorem dX11_fewest_0 : decode cX11_fewest 0 = .ok (.aload_n 0, 1) := by decide +kernel
theorem dX11_fewest_1 : decode cX11_fewest 1 = .ok (.iconst 0, 1) := by decide +kernel
theorem dX11_fewest_2 : decode cX11_fewest 2 = .ok (.putfield 75, 3) := by decide +kernel
theorem dX11_fewest_5 : decode cX11_fewest 5 = .ok (.aload_n 0, 1) := by decide +kernel
theorem dX11_fewest_6 : decode cX11_fewest 6 = .ok (.iload_n 1, 1) := by decide +kernel
theorem dX11_fewest_7 : decode cX11_fewest 7 = .ok (.invokevirtual 171, 3) := by decide +kernel
theorem dX11_fewest_10 : decode cX11_fewest 10 = .ok (.ifCond .eq 11, 3) := by decide +kernel
theorem dX11_fewest_21 : decode cX11_fewest 21 = .ok (.iconst (-1), 1) := by decide +kernel
theorem dX11_fewest_22 : decode cX11_fewest 22 = .ok (.ireturn, 1) := by decide +kernel
theorem dX11_period_0 : decode cX11_period 0 = .ok (.aload_n 0, 1) := by decide +kernel
theorem dX11_period_1 : decode cX11_period 1 = .ok (.iconst 0, 1) := by decide +kernel
theorem dX11_period_2 : decode cX11_period 2 = .ok (.putfield 75, 3) := by decide +kernel
theorem dX11_period_5 : decode cX11_period 5 = .ok (.aload_n 0, 1) := by decide +kernel
theorem dX11_period_6 : decode cX11_period 6 = .ok (.iload_n 1, 1) := by decide +kernel
theorem dX11_period_7 : decode cX11_period 7 = .ok (.invokevirtual 171, 3) := by decide +kernel
theorem dX11_period_10 : decode cX11_period 10 = .ok (.ifCond .ne 5, 3) := by decide +kernel
theorem dX11_period_13 : decode cX11_period 13 = .ok (.iconst (-1), 1) := by decide +kernel
theorem dX11_period_14 : decode cX11_period 14 = .ok (.ireturn, 1) := by decide +kernel
theorem dX11_meet_0 : decode cX11_meet 0 = .ok (.aload_n 0, 1) := by decide +kernel
theorem dX11_meet_1 : decode cX11_meet 1 = .ok (.iconst 0, 1) := by decide +kernel
theorem dX11_meet_2 : decode cX11_meet 2 = .ok (.putfield 75, 3) := by decide +kernel
theorem dX11_meet_5 : decode cX11_meet 5 = .ok (.aload_n 0, 1) := by decide +kernel
theorem dX11_meet_6 : decode cX11_meet 6 = .ok (.iload_n 1, 1) := by decide +kernel
theorem dX11_meet_7 : decode cX11_meet 7 = .ok (.invokevirtual 171, 3) := by decide +kernel
theorem dX11_meet_10 : decode cX11_meet 10 = .ok (.ifCond .eq 18, 3) := by decide +kernel
theorem dX11_meet_28 : decode cX11_meet 28 = .ok (.iconst (-1), 1) := by decide +kernel
theorem dX11_meet_29 : decode cX11_meet 29 = .ok (.ireturn, 1) := by decide +kernel
theorem dX11_kernel_0 : decode cX11_kernel 0 = .ok (.aload_n 0, 1) := by decide +kernel
theorem dX11_kernel_1 : decode cX11_kernel 1 = .ok (.iconst 0, 1) := by decide +kernel
theorem dX11_kernel_2 : decode cX11_kernel 2 = .ok (.putfield 75, 3) := by decide +kernel
theorem dX11_kernel_5 : decode cX11_kernel 5 = .ok (.aload_n 0, 1) := by decide +kernel
theorem dX11_kernel_6 : decode cX11_kernel 6 = .ok (.iload_n 1, 1) := by decide +kernel
theorem dX11_kernel_7 : decode cX11_kernel 7 = .ok (.invokevirtual 171, 3) := by decide +kernel
theorem dX11_kernel_10 : decode cX11_kernel 10 = .ok (.ifCond .eq 11, 3) := by decide +kernel
theorem dX11_kernel_21 : decode cX11_kernel 21 = .ok (.iconst (-1), 1) := by decide +kernel
theorem dX11_kernel_22 : decode cX11_kernel 22 = .ok (.ireturn, 1) := by decide +kernel
theorem dX11_turned_0 : decode cX11_turned 0 = .ok (.aload_n 0, 1) := by decide +kernel
theorem dX11_turned_1 : decode cX11_turned 1 = .ok (.iconst 0, 1) := by decide +kernel
theorem dX11_turned_2 : decode cX11_turned 2 = .ok (.putfield 75, 3) := by decide +kernel
theorem dX11_turned_5 : decode cX11_turned 5 = .ok (.aload_n 0, 1) := by decide +kernel
theorem dX11_turned_6 : decode cX11_turned 6 = .ok (.iload_n 1, 1) := by decide +kernel
theorem dX11_turned_7 : decode cX11_turned 7 = .ok (.invokevirtual 171, 3) := by decide +kernel
theorem dX11_turned_10 : decode cX11_turned 10 = .ok (.ifCond .eq 34, 3) := by decide +kernel
theorem dX11_turned_44 : decode cX11_turned 44 = .ok (.iconst (-1), 1) := by decide +kernel
theorem dX11_turned_45 : decode cX11_turned 45 = .ok (.ireturn, 1) := by decide +kernel
theorem dX11_orbit_0 : decode cX11_orbit 0 = .ok (.aload_n 0, 1) := by decide +kernel
theorem dX11_orbit_1 : decode cX11_orbit 1 = .ok (.iconst 0, 1) := by decide +kernel
theorem dX11_orbit_2 : decode cX11_orbit 2 = .ok (.putfield 75, 3) := by decide +kernel
theorem dX11_orbit_5 : decode cX11_orbit 5 = .ok (.aload_n 0, 1) := by decide +kernel
theorem dX11_orbit_6 : decode cX11_orbit 6 = .ok (.iload_n 1, 1) := by decide +kernel
theorem dX11_orbit_7 : decode cX11_orbit 7 = .ok (.invokevirtual 171, 3) := by decide +kernel
theorem dX11_orbit_10 : decode cX11_orbit 10 = .ok (.ifCond .eq 34, 3) := by decide +kernel
theorem dX11_orbit_44 : decode cX11_orbit 44 = .ok (.bipush (-2), 2) := by decide +kernel
theorem dX11_orbit_46 : decode cX11_orbit 46 = .ok (.ireturn, 1) := by decide +kernel
theorem dX11_group_0 : decode cX11_group 0 = .ok (.aload_n 0, 1) := by decide +kernel
theorem dX11_group_1 : decode cX11_group 1 = .ok (.iconst 0, 1) := by decide +kernel
theorem dX11_group_2 : decode cX11_group 2 = .ok (.putfield 75, 3) := by decide +kernel
theorem dX11_group_5 : decode cX11_group 5 = .ok (.aload_n 0, 1) := by decide +kernel
theorem dX11_group_6 : decode cX11_group 6 = .ok (.iload_n 1, 1) := by decide +kernel
theorem dX11_group_7 : decode cX11_group 7 = .ok (.invokevirtual 171, 3) := by decide +kernel
theorem dX11_group_10 : decode cX11_group 10 = .ok (.ifCond .eq 11, 3) := by decide +kernel
theorem dX11_group_21 : decode cX11_group 21 = .ok (.bipush (-2), 2) := by decide +kernel
theorem dX11_group_23 : decode cX11_group 23 = .ok (.ireturn, 1) := by decide +kernel
theorem dX11_sum_0 : decode cX11_sum 0 = .ok (.aload_n 0, 1) := by decide +kernel
theorem dX11_sum_1 : decode cX11_sum 1 = .ok (.iconst 0, 1) := by decide +kernel
theorem dX11_sum_2 : decode cX11_sum 2 = .ok (.putfield 75, 3) := by decide +kernel
theorem dX11_sum_5 : decode cX11_sum 5 = .ok (.aload_n 0, 1) := by decide +kernel
theorem dX11_sum_6 : decode cX11_sum 6 = .ok (.iload_n 1, 1) := by decide +kernel
theorem dX11_sum_7 : decode cX11_sum 7 = .ok (.invokevirtual 171, 3) := by decide +kernel
theorem dX11_sum_10 : decode cX11_sum 10 = .ok (.ifCond .eq 11, 3) := by decide +kernel
theorem dX11_sum_21 : decode cX11_sum 21 = .ok (.bipush (-2), 2) := by decide +kernel
theorem dX11_sum_23 : decode cX11_sum 23 = .ok (.ireturn, 1) := by decide +kernel
theorem dX11_noUse_0 : decode cX11_noUse 0 = .ok (.aload_n 0, 1) := by decide +kernel
theorem dX11_noUse_1 : decode cX11_noUse 1 = .ok (.iconst 0, 1) := by decide +kernel
theorem dX11_noUse_2 : decode cX11_noUse 2 = .ok (.putfield 75, 3) := by decide +kernel
theorem dX11_noUse_5 : decode cX11_noUse 5 = .ok (.aload_n 0, 1) := by decide +kernel
theorem dX11_noUse_6 : decode cX11_noUse 6 = .ok (.iload_n 1, 1) := by decide +kernel
theorem dX11_noUse_7 : decode cX11_noUse 7 = .ok (.invokevirtual 171, 3) := by decide +kernel
theorem dX11_noUse_10 : decode cX11_noUse 10 = .ok (.ifCond .ne 5, 3) := by decide +kernel
theorem dX11_noUse_13 : decode cX11_noUse 13 = .ok (.iconst (-1), 1) := by decide +kernel
theorem dX11_noUse_14 : decode cX11_noUse 14 = .ok (.ireturn, 1) := by decide +kernel
theorem dX11_enough_0 : decode cX11_enough 0 = .ok (.aload_n 0, 1) := by decide +kernel
theorem dX11_enough_1 : decode cX11_enough 1 = .ok (.iconst 0, 1) := by decide +kernel
theorem dX11_enough_2 : decode cX11_enough 2 = .ok (.putfield 75, 3) := by decide +kernel
theorem dX11_enough_5 : decode cX11_enough 5 = .ok (.aload_n 0, 1) := by decide +kernel
theorem dX11_enough_6 : decode cX11_enough 6 = .ok (.iload_n 1, 1) := by decide +kernel
theorem dX11_enough_7 : decode cX11_enough 7 = .ok (.invokevirtual 171, 3) := by decide +kernel
theorem dX11_enough_10 : decode cX11_enough 10 = .ok (.ifCond .eq 35, 3) := by decide +kernel
theorem dX11_enough_45 : decode cX11_enough 45 = .ok (.iconst (-1), 1) := by decide +kernel
theorem dX11_enough_46 : decode cX11_enough 46 = .ok (.ireturn, 1) := by decide +kernel
theorem dX11_alike_0 : decode cX11_alike 0 = .ok (.aload_n 0, 1) := by decide +kernel
theorem dX11_alike_1 : decode cX11_alike 1 = .ok (.iconst 0, 1) := by decide +kernel
theorem dX11_alike_2 : decode cX11_alike 2 = .ok (.putfield 75, 3) := by decide +kernel
theorem dX11_alike_5 : decode cX11_alike 5 = .ok (.aload_n 0, 1) := by decide +kernel
theorem dX11_alike_6 : decode cX11_alike 6 = .ok (.iload_n 1, 1) := by decide +kernel
theorem dX11_alike_7 : decode cX11_alike 7 = .ok (.invokevirtual 171, 3) := by decide +kernel
theorem dX11_alike_10 : decode cX11_alike 10 = .ok (.ifCond .ne 5, 3) := by decide +kernel
theorem dX11_alike_13 : decode cX11_alike 13 = .ok (.iconst (-1), 1) := by decide +kernel
theorem dX11_alike_14 : decode cX11_alike 14 = .ok (.ireturn, 1) := by decide +kernel
theorem dX11_recurrence_0 : decode cX11_recurrence 0 = .ok (.aload_n 0, 1) := by decide +kernel
theorem dX11_recurrence_1 : decode cX11_recurrence 1 = .ok (.iconst 0, 1) := by decide +kernel
theorem dX11_recurrence_2 : decode cX11_recurrence 2 = .ok (.putfield 75, 3) := by decide +kernel
theorem dX11_recurrence_5 : decode cX11_recurrence 5 = .ok (.aload_n 0, 1) := by decide +kernel
theorem dX11_recurrence_6 : decode cX11_recurrence 6 = .ok (.iload_n 1, 1) := by decide +kernel
theorem dX11_recurrence_7 : decode cX11_recurrence 7 = .ok (.iload_n 2, 1) := by decide +kernel
theorem dX11_recurrence_8 : decode cX11_recurrence 8 = .ok (.iconst 0, 1) := by decide +kernel
theorem dX11_recurrence_9 : decode cX11_recurrence 9 = .ok (.iload_n 3, 1) := by decide +kernel
theorem dX11_recurrence_10 : decode cX11_recurrence 10 = .ok (.iload 4, 2) := by decide +kernel
theorem dX11_recurrence_12 : decode cX11_recurrence 12 = .ok (.iload 5, 2) := by decide +kernel
theorem dX11_recurrence_14 : decode cX11_recurrence 14 = .ok (.iload 6, 2) := by decide +kernel
theorem dX11_recurrence_16 : decode cX11_recurrence 16 = .ok (.invokevirtual 409, 3) := by decide +kernel
theorem w_1936 : Cond.methodLink "QuarterWalksModel" 409 yX11_numberOf ∈ wAll := wIn 1936 (by decide +kernel) (by decide +kernel)
theorem w_77 : Cond.selects yX11_numberOf.cls yX11_numberOf yX11_numberOf ∈ wAll := wIn 77 (by decide +kernel) (by decide +kernel)
theorem mk_X11_numberOf : mk yX11_numberOf 7 := ⟨by decide +kernel, w_110⟩
theorem w_1938 : Cond.instanceMethod yX11_numberOf ∈ wAll := wIn 1938 (by decide +kernel) (by decide +kernel)
theorem w_1939 : Cond.code yX11_numberOf cX11_numberOf 8 (some .int) ∈ wAll := wIn 1939 (by decide +kernel) (by decide +kernel)
theorem dX11_recurrence_19 : decode cX11_recurrence 19 = .ok (.ireturn, 1) := by decide +kernel
theorem dX11_fails__0 : decode cX11_fails_ 0 = .ok (.aload_n 0, 1) := by decide +kernel
theorem dX11_fails__1 : decode cX11_fails_ 1 = .ok (.iconst 0, 1) := by decide +kernel
theorem dX11_fails__2 : decode cX11_fails_ 2 = .ok (.putfield 75, 3) := by decide +kernel
theorem dX11_fails__5 : decode cX11_fails_ 5 = .ok (.aload_n 0, 1) := by decide +kernel
theorem dX11_fails__6 : decode cX11_fails_ 6 = .ok (.iload_n 1, 1) := by decide +kernel
theorem dX11_fails__7 : decode cX11_fails_ 7 = .ok (.iload_n 2, 1) := by decide +kernel
theorem dX11_fails__8 : decode cX11_fails_ 8 = .ok (.iconst 0, 1) := by decide +kernel
theorem dX11_fails__9 : decode cX11_fails_ 9 = .ok (.iload_n 3, 1) := by decide +kernel
theorem dX11_fails__10 : decode cX11_fails_ 10 = .ok (.iload 4, 2) := by decide +kernel
theorem dX11_fails__12 : decode cX11_fails_ 12 = .ok (.invokevirtual 413, 3) := by decide +kernel
theorem w_1981 : Cond.methodLink "QuarterWalksModel" 413 yX11_failOf ∈ wAll := wIn 1981 (by decide +kernel) (by decide +kernel)
theorem w_86 : Cond.selects yX11_failOf.cls yX11_failOf yX11_failOf ∈ wAll := wIn 86 (by decide +kernel) (by decide +kernel)
theorem mk_X11_failOf : mk yX11_failOf 5 := ⟨by decide +kernel, w_110⟩
theorem w_1983 : Cond.instanceMethod yX11_failOf ∈ wAll := wIn 1983 (by decide +kernel) (by decide +kernel)
theorem w_1984 : Cond.code yX11_failOf cX11_failOf 6 (some .int) ∈ wAll := wIn 1984 (by decide +kernel) (by decide +kernel)
theorem dX11_fails__15 : decode cX11_fails_ 15 = .ok (.ireturn, 1) := by decide +kernel
theorem dX11_equation_0 : decode cX11_equation 0 = .ok (.aload_n 0, 1) := by decide +kernel
theorem dX11_equation_1 : decode cX11_equation 1 = .ok (.iconst 0, 1) := by decide +kernel
theorem dX11_equation_2 : decode cX11_equation 2 = .ok (.putfield 75, 3) := by decide +kernel
theorem dX11_equation_5 : decode cX11_equation 5 = .ok (.aload_n 0, 1) := by decide +kernel
theorem dX11_equation_6 : decode cX11_equation 6 = .ok (.iload_n 1, 1) := by decide +kernel
theorem dX11_equation_7 : decode cX11_equation 7 = .ok (.iload_n 2, 1) := by decide +kernel
theorem dX11_equation_8 : decode cX11_equation 8 = .ok (.iconst 1, 1) := by decide +kernel
theorem dX11_equation_9 : decode cX11_equation 9 = .ok (.iload_n 3, 1) := by decide +kernel
theorem dX11_equation_10 : decode cX11_equation 10 = .ok (.iload 4, 2) := by decide +kernel
theorem dX11_equation_12 : decode cX11_equation 12 = .ok (.iload 5, 2) := by decide +kernel
theorem dX11_equation_14 : decode cX11_equation 14 = .ok (.iload 6, 2) := by decide +kernel
theorem dX11_equation_16 : decode cX11_equation 16 = .ok (.invokevirtual 409, 3) := by decide +kernel
theorem dX11_equation_19 : decode cX11_equation 19 = .ok (.ireturn, 1) := by decide +kernel
theorem dX11_breaks_0 : decode cX11_breaks 0 = .ok (.aload_n 0, 1) := by decide +kernel
theorem dX11_breaks_1 : decode cX11_breaks 1 = .ok (.iconst 0, 1) := by decide +kernel
theorem dX11_breaks_2 : decode cX11_breaks 2 = .ok (.putfield 75, 3) := by decide +kernel
theorem dX11_breaks_5 : decode cX11_breaks 5 = .ok (.aload_n 0, 1) := by decide +kernel
theorem dX11_breaks_6 : decode cX11_breaks 6 = .ok (.iload_n 1, 1) := by decide +kernel
theorem dX11_breaks_7 : decode cX11_breaks 7 = .ok (.iload_n 2, 1) := by decide +kernel
theorem dX11_breaks_8 : decode cX11_breaks 8 = .ok (.iconst 1, 1) := by decide +kernel
theorem dX11_breaks_9 : decode cX11_breaks 9 = .ok (.iload_n 3, 1) := by decide +kernel
theorem dX11_breaks_10 : decode cX11_breaks 10 = .ok (.iload 4, 2) := by decide +kernel
theorem dX11_breaks_12 : decode cX11_breaks 12 = .ok (.invokevirtual 413, 3) := by decide +kernel
theorem dX11_breaks_15 : decode cX11_breaks 15 = .ok (.ireturn, 1) := by decide +kernel
theorem dX11_least_0 : decode cX11_least 0 = .ok (.aload_n 0, 1) := by decide +kernel
theorem dX11_least_1 : decode cX11_least 1 = .ok (.iconst 0, 1) := by decide +kernel
theorem dX11_least_2 : decode cX11_least 2 = .ok (.putfield 75, 3) := by decide +kernel
theorem dX11_least_5 : decode cX11_least 5 = .ok (.aload_n 0, 1) := by decide +kernel
theorem dX11_least_6 : decode cX11_least 6 = .ok (.iload_n 1, 1) := by decide +kernel
theorem dX11_least_7 : decode cX11_least 7 = .ok (.invokevirtual 171, 3) := by decide +kernel
theorem dX11_least_10 : decode cX11_least 10 = .ok (.ifCond .eq 25, 3) := by decide +kernel
theorem dX11_least_35 : decode cX11_least 35 = .ok (.ldc_w 286, 3) := by decide +kernel
theorem dX11_least_38 : decode cX11_least 38 = .ok (.ireturn, 1) := by decide +kernel
theorem dX11_written_0 : decode cX11_written 0 = .ok (.aload_n 0, 1) := by decide +kernel
theorem dX11_written_1 : decode cX11_written 1 = .ok (.iconst 0, 1) := by decide +kernel
theorem dX11_written_2 : decode cX11_written 2 = .ok (.putfield 75, 3) := by decide +kernel
theorem dX11_written_5 : decode cX11_written 5 = .ok (.aload_n 0, 1) := by decide +kernel
theorem dX11_written_6 : decode cX11_written 6 = .ok (.iload_n 1, 1) := by decide +kernel
theorem dX11_written_7 : decode cX11_written 7 = .ok (.invokevirtual 171, 3) := by decide +kernel
theorem dX11_written_10 : decode cX11_written 10 = .ok (.ifCond .ne 5, 3) := by decide +kernel
theorem dX11_written_13 : decode cX11_written 13 = .ok (.iconst (-1), 1) := by decide +kernel
theorem dX11_written_14 : decode cX11_written 14 = .ok (.ireturn, 1) := by decide +kernel
theorem dJ0_coder_7d493_0 : decode cJ0_coder_7d493 0 = .ok (.getstatic 38, 3) := by decide +kernel
theorem w_480 : Cond.fieldLink "java/lang/String" 38 "java/lang/String" "COMPACT_STRINGS" "Z" ∈ wAll := wIn 480 (by decide +kernel) (by decide +kernel)
theorem dJ0_coder_7d493_3 : decode cJ0_coder_7d493 3 = .ok (.ifCond .eq 10, 3) := by decide +kernel
theorem dJ0_coder_7d493_6 : decode cJ0_coder_7d493 6 = .ok (.aload_n 0, 1) := by decide +kernel
theorem dJ0_coder_7d493_7 : decode cJ0_coder_7d493 7 = .ok (.getfield 15, 3) := by decide +kernel
theorem w_2092 : Cond.fieldLink "java/lang/String" 15 "java/lang/String" "coder" "B" ∈ wAll := wIn 2092 (by decide +kernel) (by decide +kernel)
theorem dJ0_coder_7d493_10 : decode cJ0_coder_7d493 10 = .ok (.goto 4, 3) := by decide +kernel
theorem dJ0_coder_7d493_14 : decode cJ0_coder_7d493 14 = .ok (.ireturn, 1) := by decide +kernel
theorem dJ0_length_8abf5_0 : decode cJ0_length_8abf5 0 = .ok (.aload_n 0, 1) := by decide +kernel
theorem dJ0_length_8abf5_1 : decode cJ0_length_8abf5 1 = .ok (.getfield 9, 3) := by decide +kernel
theorem w_2093 : Cond.fieldLink "java/lang/String" 9 "java/lang/String" "value" "[B" ∈ wAll := wIn 2093 (by decide +kernel) (by decide +kernel)
theorem dJ0_length_8abf5_4 : decode cJ0_length_8abf5 4 = .ok (.arraylength, 1) := by decide +kernel
theorem dJ0_length_8abf5_5 : decode cJ0_length_8abf5 5 = .ok (.aload_n 0, 1) := by decide +kernel
theorem dJ0_length_8abf5_6 : decode cJ0_length_8abf5 6 = .ok (.invokevirtual 335, 3) := by decide +kernel
theorem w_1255 : Cond.methodLink "java/lang/String" 335 yJ0_coder_7d493 ∈ wAll := wIn 1255 (by decide +kernel) (by decide +kernel)
theorem w_1257 : Cond.selects yJ0_coder_7d493.cls yJ0_coder_7d493 yJ0_coder_7d493 ∈ wAll := wIn 1257 (by decide +kernel) (by decide +kernel)
theorem w_108 : Cond.initialized "java/lang/String" ∈ wAll := wIn 108 (by decide +kernel) (by decide +kernel)
theorem mk_J0_coder_7d493 : mk yJ0_coder_7d493 0 := ⟨by decide +kernel, w_108⟩
theorem w_1256 : Cond.instanceMethod yJ0_coder_7d493 ∈ wAll := wIn 1256 (by decide +kernel) (by decide +kernel)
theorem w_1258 : Cond.code yJ0_coder_7d493 cJ0_coder_7d493 1 (some .byte) ∈ wAll := wIn 1258 (by decide +kernel) (by decide +kernel)
theorem dJ0_length_8abf5_9 : decode cJ0_length_8abf5 9 = .ok (.ishr, 1) := by decide +kernel
theorem dJ0_length_8abf5_10 : decode cJ0_length_8abf5 10 = .ok (.ireturn, 1) := by decide +kernel
theorem dX11_here_0 : decode cX11_here 0 = .ok (.aload_n 0, 1) := by decide +kernel
theorem dX11_here_1 : decode cX11_here 1 = .ok (.getfield 90, 3) := by decide +kernel
theorem w_1436 : Cond.fieldLink "QuarterWalksModel" 90 "QuarterWalksModel" "at" "I" ∈ wAll := wIn 1436 (by decide +kernel) (by decide +kernel)
theorem fl_X11_90 : fl RX11 90 12 3 := ⟨RX11, TX11, 32, rfl, inA_X11, by decide, w_1436⟩
theorem dX11_here_4 : decode cX11_here 4 = .ok (.aload_n 0, 1) := by decide +kernel
theorem dX11_here_5 : decode cX11_here 5 = .ok (.getfield 79, 3) := by decide +kernel
theorem w_1435 : Cond.fieldLink "QuarterWalksModel" 79 "QuarterWalksModel" "length" "I" ∈ wAll := wIn 1435 (by decide +kernel) (by decide +kernel)
theorem fl_X11_79 : fl RX11 79 12 2 := ⟨RX11, TX11, 32, rfl, inA_X11, by decide, w_1435⟩
theorem dX11_here_8 : decode cX11_here 8 = .ok (.if_icmp .ge 19, 3) := by decide +kernel
theorem dX11_here_27 : decode cX11_here 27 = .ok (.iconst (-1), 1) := by decide +kernel
theorem dX11_here_28 : decode cX11_here 28 = .ok (.ireturn, 1) := by decide +kernel
theorem dX11_look_0 : decode cX11_look 0 = .ok (.aload_n 0, 1) := by decide +kernel
theorem dX11_look_1 : decode cX11_look 1 = .ok (.invokevirtual 93, 3) := by decide +kernel
theorem w_1565 : Cond.methodLink "QuarterWalksModel" 93 yX11_here ∈ wAll := wIn 1565 (by decide +kernel) (by decide +kernel)
theorem w_41 : Cond.selects yX11_here.cls yX11_here yX11_here ∈ wAll := wIn 41 (by decide +kernel) (by decide +kernel)
theorem mk_X11_here : mk yX11_here 0 := ⟨by decide +kernel, w_110⟩
theorem w_1567 : Cond.instanceMethod yX11_here ∈ wAll := wIn 1567 (by decide +kernel) (by decide +kernel)
theorem w_1568 : Cond.code yX11_here cX11_here 1 (some .int) ∈ wAll := wIn 1568 (by decide +kernel) (by decide +kernel)
theorem dX11_look_4 : decode cX11_look 4 = .ok (.bipush 32, 2) := by decide +kernel
theorem dX11_look_6 : decode cX11_look 6 = .ok (.if_icmp .ne 16, 3) := by decide +kernel
theorem dX11_look_22 : decode cX11_look 22 = .ok (.aload_n 0, 1) := by decide +kernel
theorem dX11_look_23 : decode cX11_look 23 = .ok (.invokevirtual 93, 3) := by decide +kernel
theorem dX11_look_26 : decode cX11_look 26 = .ok (.ireturn, 1) := by decide +kernel
theorem dX11_word_0 : decode cX11_word 0 = .ok (.aload_n 0, 1) := by decide +kernel
theorem dX11_word_1 : decode cX11_word 1 = .ok (.invokevirtual 100, 3) := by decide +kernel
theorem w_1561 : Cond.methodLink "QuarterWalksModel" 100 yX11_look ∈ wAll := wIn 1561 (by decide +kernel) (by decide +kernel)
theorem w_40 : Cond.selects yX11_look.cls yX11_look yX11_look ∈ wAll := wIn 40 (by decide +kernel) (by decide +kernel)
theorem mk_X11_look : mk yX11_look 0 := ⟨by decide +kernel, w_110⟩
theorem w_1563 : Cond.instanceMethod yX11_look ∈ wAll := wIn 1563 (by decide +kernel) (by decide +kernel)
theorem w_1564 : Cond.code yX11_look cX11_look 1 (some .int) ∈ wAll := wIn 1564 (by decide +kernel) (by decide +kernel)
theorem dX11_word_4 : decode cX11_word 4 = .ok (.istore_n 2, 1) := by decide +kernel
theorem dX11_word_5 : decode cX11_word 5 = .ok (.iconst 0, 1) := by decide +kernel
theorem dX11_word_6 : decode cX11_word 6 = .ok (.istore_n 3, 1) := by decide +kernel
theorem dX11_word_7 : decode cX11_word 7 = .ok (.iload_n 3, 1) := by decide +kernel
theorem dX11_word_8 : decode cX11_word 8 = .ok (.aload_n 1, 1) := by decide +kernel
theorem dX11_word_9 : decode cX11_word 9 = .ok (.invokevirtual 103, 3) := by decide +kernel
theorem w_1578 : Cond.methodLink "QuarterWalksModel" 103 yJ0_length_8abf5 ∈ wAll := wIn 1578 (by decide +kernel) (by decide +kernel)
theorem w_1253 : Cond.selects yJ0_length_8abf5.cls yJ0_length_8abf5 yJ0_length_8abf5 ∈ wAll := wIn 1253 (by decide +kernel) (by decide +kernel)
theorem mk_J0_length_8abf5 : mk yJ0_length_8abf5 0 := ⟨by decide +kernel, w_108⟩
theorem w_1252 : Cond.instanceMethod yJ0_length_8abf5 ∈ wAll := wIn 1252 (by decide +kernel) (by decide +kernel)
theorem w_1254 : Cond.code yJ0_length_8abf5 cJ0_length_8abf5 1 (some .int) ∈ wAll := wIn 1254 (by decide +kernel) (by decide +kernel)
theorem dX11_word_12 : decode cX11_word 12 = .ok (.if_icmp .ge 43, 3) := by decide +kernel
theorem dX11_word_15 : decode cX11_word 15 = .ok (.aload_n 0, 1) := by decide +kernel
theorem dX11_word_16 : decode cX11_word 16 = .ok (.getfield 90, 3) := by decide +kernel
theorem dX11_word_19 : decode cX11_word 19 = .ok (.iload_n 3, 1) := by decide +kernel
theorem dX11_word_20 : decode cX11_word 20 = .ok (.iadd, 1) := by decide +kernel
theorem dX11_word_21 : decode cX11_word 21 = .ok (.aload_n 0, 1) := by decide +kernel
theorem dX11_word_22 : decode cX11_word 22 = .ok (.getfield 79, 3) := by decide +kernel
theorem dX11_word_25 : decode cX11_word 25 = .ok (.if_icmp .ge 22, 3) := by decide +kernel
theorem dX11_word_47 : decode cX11_word 47 = .ok (.iconst 0, 1) := by decide +kernel
theorem dX11_word_48 : decode cX11_word 48 = .ok (.ireturn, 1) := by decide +kernel
theorem dX11_stepHere_0 : decode cX11_stepHere 0 = .ok (.aload_n 0, 1) := by decide +kernel
theorem dX11_stepHere_1 : decode cX11_stepHere 1 = .ok (.ldc 114, 2) := by decide +kernel
theorem dX11_stepHere_3 : decode cX11_stepHere 3 = .ok (.invokevirtual 116, 3) := by decide +kernel
theorem w_1574 : Cond.methodLink "QuarterWalksModel" 116 yX11_word ∈ wAll := wIn 1574 (by decide +kernel) (by decide +kernel)
theorem w_43 : Cond.selects yX11_word.cls yX11_word yX11_word ∈ wAll := wIn 43 (by decide +kernel) (by decide +kernel)
theorem mk_X11_word : mk yX11_word 1 := ⟨by decide +kernel, w_110⟩
theorem w_1576 : Cond.instanceMethod yX11_word ∈ wAll := wIn 1576 (by decide +kernel) (by decide +kernel)
theorem w_1577 : Cond.code yX11_word cX11_word 4 (some .boolean) ∈ wAll := wIn 1577 (by decide +kernel) (by decide +kernel)
theorem dX11_stepHere_6 : decode cX11_stepHere 6 = .ok (.ifCond .eq 5, 3) := by decide +kernel
theorem dX11_stepHere_11 : decode cX11_stepHere 11 = .ok (.aload_n 0, 1) := by decide +kernel
theorem dX11_stepHere_12 : decode cX11_stepHere 12 = .ok (.ldc 120, 2) := by decide +kernel
theorem dX11_stepHere_14 : decode cX11_stepHere 14 = .ok (.invokevirtual 116, 3) := by decide +kernel
theorem dX11_stepHere_17 : decode cX11_stepHere 17 = .ok (.ifCond .eq 5, 3) := by decide +kernel
theorem dX11_stepHere_22 : decode cX11_stepHere 22 = .ok (.aload_n 0, 1) := by decide +kernel
theorem dX11_stepHere_23 : decode cX11_stepHere 23 = .ok (.ldc 122, 2) := by decide +kernel
theorem dX11_stepHere_25 : decode cX11_stepHere 25 = .ok (.invokevirtual 116, 3) := by decide +kernel
theorem dX11_stepHere_28 : decode cX11_stepHere 28 = .ok (.ifCond .eq 5, 3) := by decide +kernel
theorem dX11_stepHere_33 : decode cX11_stepHere 33 = .ok (.aload_n 0, 1) := by decide +kernel
theorem dX11_stepHere_34 : decode cX11_stepHere 34 = .ok (.ldc 124, 2) := by decide +kernel
theorem dX11_stepHere_36 : decode cX11_stepHere 36 = .ok (.invokevirtual 116, 3) := by decide +kernel
theorem dX11_stepHere_39 : decode cX11_stepHere 39 = .ok (.ifCond .eq 5, 3) := by decide +kernel
theorem dX11_stepHere_44 : decode cX11_stepHere 44 = .ok (.aload_n 0, 1) := by decide +kernel
theorem dX11_stepHere_45 : decode cX11_stepHere 45 = .ok (.ldc 126, 2) := by decide +kernel
theorem dX11_stepHere_47 : decode cX11_stepHere 47 = .ok (.invokevirtual 116, 3) := by decide +kernel
theorem dX11_stepHere_50 : decode cX11_stepHere 50 = .ok (.ifCond .eq 5, 3) := by decide +kernel
theorem dX11_stepHere_55 : decode cX11_stepHere 55 = .ok (.aload_n 0, 1) := by decide +kernel
theorem dX11_stepHere_56 : decode cX11_stepHere 56 = .ok (.ldc 128, 2) := by decide +kernel
theorem dX11_stepHere_58 : decode cX11_stepHere 58 = .ok (.invokevirtual 116, 3) := by decide +kernel
theorem dX11_stepHere_61 : decode cX11_stepHere 61 = .ok (.ifCond .eq 5, 3) := by decide +kernel
theorem dX11_stepHere_66 : decode cX11_stepHere 66 = .ok (.aload_n 0, 1) := by decide +kernel
theorem dX11_stepHere_67 : decode cX11_stepHere 67 = .ok (.ldc 130, 2) := by decide +kernel
theorem dX11_stepHere_69 : decode cX11_stepHere 69 = .ok (.invokevirtual 116, 3) := by decide +kernel
theorem dX11_stepHere_72 : decode cX11_stepHere 72 = .ok (.ifCond .eq 6, 3) := by decide +kernel
theorem dX11_stepHere_78 : decode cX11_stepHere 78 = .ok (.aload_n 0, 1) := by decide +kernel
theorem dX11_stepHere_79 : decode cX11_stepHere 79 = .ok (.ldc 132, 2) := by decide +kernel
theorem dX11_stepHere_81 : decode cX11_stepHere 81 = .ok (.invokevirtual 116, 3) := by decide +kernel
theorem dX11_stepHere_84 : decode cX11_stepHere 84 = .ok (.ifCond .eq 8, 3) := by decide +kernel
theorem dX11_stepHere_92 : decode cX11_stepHere 92 = .ok (.iconst (-1), 1) := by decide +kernel
theorem dX11_stepHere_93 : decode cX11_stepHere 93 = .ok (.ireturn, 1) := by decide +kernel
theorem dX11_fails_0 : decode cX11_fails 0 = .ok (.aload_n 0, 1) := by decide +kernel
theorem dX11_fails_1 : decode cX11_fails 1 = .ok (.getfield 97, 3) := by decide +kernel
theorem w_1437 : Cond.fieldLink "QuarterWalksModel" 97 "QuarterWalksModel" "fault" "I" ∈ wAll := wIn 1437 (by decide +kernel) (by decide +kernel)
theorem fl_X11_97 : fl RX11 97 12 4 := ⟨RX11, TX11, 32, rfl, inA_X11, by decide, w_1437⟩
theorem dX11_fails_4 : decode cX11_fails 4 = .ok (.iconst (-1), 1) := by decide +kernel
theorem dX11_fails_5 : decode cX11_fails 5 = .ok (.if_icmp .ne 8, 3) := by decide +kernel
theorem dX11_fails_8 : decode cX11_fails 8 = .ok (.aload_n 0, 1) := by decide +kernel
theorem dX11_fails_9 : decode cX11_fails 9 = .ok (.iload_n 1, 1) := by decide +kernel
theorem dX11_fails_10 : decode cX11_fails 10 = .ok (.putfield 97, 3) := by decide +kernel
theorem flw_X11_97 : flw RX11 97 12 4 (.int) := ⟨RX11, TX11, 32, tyX11, rfl, inA_X11, by decide, w_1437, tyX11_ok, nmX11, by decide +kernel, Or.inl rfl⟩
theorem dX11_fails_13 : decode cX11_fails 13 = .ok (.return_, 1) := by decide +kernel
theorem dX11_readsStep_0 : decode cX11_readsStep 0 = .ok (.aload_n 0, 1) := by decide +kernel
theorem dX11_readsStep_1 : decode cX11_readsStep 1 = .ok (.invokevirtual 100, 3) := by decide +kernel
theorem dX11_readsStep_4 : decode cX11_readsStep 4 = .ok (.istore_n 1, 1) := by decide +kernel
theorem dX11_readsStep_5 : decode cX11_readsStep 5 = .ok (.aload_n 0, 1) := by decide +kernel
theorem dX11_readsStep_6 : decode cX11_readsStep 6 = .ok (.getfield 90, 3) := by decide +kernel
theorem dX11_readsStep_9 : decode cX11_readsStep 9 = .ok (.istore_n 2, 1) := by decide +kernel
theorem dX11_readsStep_10 : decode cX11_readsStep 10 = .ok (.aload_n 0, 1) := by decide +kernel
theorem dX11_readsStep_11 : decode cX11_readsStep 11 = .ok (.invokevirtual 134, 3) := by decide +kernel
theorem w_1569 : Cond.methodLink "QuarterWalksModel" 134 yX11_stepHere ∈ wAll := wIn 1569 (by decide +kernel) (by decide +kernel)
theorem w_42 : Cond.selects yX11_stepHere.cls yX11_stepHere yX11_stepHere ∈ wAll := wIn 42 (by decide +kernel) (by decide +kernel)
theorem mk_X11_stepHere : mk yX11_stepHere 0 := ⟨by decide +kernel, w_110⟩
theorem w_1571 : Cond.instanceMethod yX11_stepHere ∈ wAll := wIn 1571 (by decide +kernel) (by decide +kernel)
theorem w_1572 : Cond.code yX11_stepHere cX11_stepHere 1 (some .int) ∈ wAll := wIn 1572 (by decide +kernel) (by decide +kernel)
theorem dX11_readsStep_14 : decode cX11_readsStep 14 = .ok (.istore_n 3, 1) := by decide +kernel
theorem dX11_readsStep_15 : decode cX11_readsStep 15 = .ok (.iload_n 3, 1) := by decide +kernel
theorem dX11_readsStep_16 : decode cX11_readsStep 16 = .ok (.iconst (-1), 1) := by decide +kernel
theorem dX11_readsStep_17 : decode cX11_readsStep 17 = .ok (.if_icmp .eq 12, 3) := by decide +kernel
theorem dX11_readsStep_29 : decode cX11_readsStep 29 = .ok (.aload_n 0, 1) := by decide +kernel
theorem dX11_readsStep_30 : decode cX11_readsStep 30 = .ok (.iload_n 2, 1) := by decide +kernel
theorem dX11_readsStep_31 : decode cX11_readsStep 31 = .ok (.invokevirtual 111, 3) := by decide +kernel
theorem w_1587 : Cond.methodLink "QuarterWalksModel" 111 yX11_fails ∈ wAll := wIn 1587 (by decide +kernel) (by decide +kernel)
theorem w_44 : Cond.selects yX11_fails.cls yX11_fails yX11_fails ∈ wAll := wIn 44 (by decide +kernel) (by decide +kernel)
theorem mk_X11_fails : mk yX11_fails 1 := ⟨by decide +kernel, w_110⟩
theorem w_1589 : Cond.instanceMethod yX11_fails ∈ wAll := wIn 1589 (by decide +kernel) (by decide +kernel)
theorem w_1590 : Cond.code yX11_fails cX11_fails 2 none ∈ wAll := wIn 1590 (by decide +kernel) (by decide +kernel)
theorem dX11_readsStep_34 : decode cX11_readsStep 34 = .ok (.return_, 1) := by decide +kernel
theorem dX11_reads_0 : decode cX11_reads 0 = .ok (.aload_n 0, 1) := by decide +kernel
theorem dX11_reads_1 : decode cX11_reads 1 = .ok (.iconst 0, 1) := by decide +kernel
theorem dX11_reads_2 : decode cX11_reads 2 = .ok (.putfield 90, 3) := by decide +kernel
theorem flw_X11_90 : flw RX11 90 12 3 (.int) := ⟨RX11, TX11, 32, tyX11, rfl, inA_X11, by decide, w_1436, tyX11_ok, nmX11, by decide +kernel, Or.inl rfl⟩
theorem dX11_reads_5 : decode cX11_reads 5 = .ok (.aload_n 0, 1) := by decide +kernel
theorem dX11_reads_6 : decode cX11_reads 6 = .ok (.iconst (-1), 1) := by decide +kernel
theorem dX11_reads_7 : decode cX11_reads 7 = .ok (.putfield 97, 3) := by decide +kernel
theorem dX11_reads_10 : decode cX11_reads 10 = .ok (.iconst 0, 1) := by decide +kernel
theorem dX11_reads_11 : decode cX11_reads 11 = .ok (.istore_n 1, 1) := by decide +kernel
theorem dX11_reads_12 : decode cX11_reads 12 = .ok (.iload_n 1, 1) := by decide +kernel
theorem dX11_reads_13 : decode cX11_reads 13 = .ok (.bipush 10, 2) := by decide +kernel
theorem dX11_reads_15 : decode cX11_reads 15 = .ok (.if_icmp .ge 16, 3) := by decide +kernel
theorem dX11_reads_18 : decode cX11_reads 18 = .ok (.aload_n 0, 1) := by decide +kernel
theorem dX11_reads_19 : decode cX11_reads 19 = .ok (.getfield 13, 3) := by decide +kernel
theorem w_1438 : Cond.fieldLink "QuarterWalksModel" 13 "QuarterWalksModel" "read" "[I" ∈ wAll := wIn 1438 (by decide +kernel) (by decide +kernel)
theorem fl_X11_13 : fl RX11 13 12 5 := ⟨RX11, TX11, 32, rfl, inA_X11, by decide, w_1438⟩
theorem dX11_reads_22 : decode cX11_reads 22 = .ok (.iload_n 1, 1) := by decide +kernel
theorem dX11_reads_23 : decode cX11_reads 23 = .ok (.iconst 0, 1) := by decide +kernel
theorem dX11_reads_24 : decode cX11_reads 24 = .ok (.iastore, 1) := by decide +kernel
theorem dX11_reads_25 : decode cX11_reads 25 = .ok (.iinc 1 1, 3) := by decide +kernel
theorem dX11_reads_28 : decode cX11_reads 28 = .ok (.goto (-16), 3) := by decide +kernel
theorem dX11_reads_31 : decode cX11_reads 31 = .ok (.aload_n 0, 1) := by decide +kernel
theorem dX11_reads_32 : decode cX11_reads 32 = .ok (.invokevirtual 146, 3) := by decide +kernel
theorem w_1557 : Cond.methodLink "QuarterWalksModel" 146 yX11_readsStep ∈ wAll := wIn 1557 (by decide +kernel) (by decide +kernel)
theorem w_39 : Cond.selects yX11_readsStep.cls yX11_readsStep yX11_readsStep ∈ wAll := wIn 39 (by decide +kernel) (by decide +kernel)
theorem mk_X11_readsStep : mk yX11_readsStep 0 := ⟨by decide +kernel, w_110⟩
theorem w_1559 : Cond.instanceMethod yX11_readsStep ∈ wAll := wIn 1559 (by decide +kernel) (by decide +kernel)
theorem w_1560 : Cond.code yX11_readsStep cX11_readsStep 4 none ∈ wAll := wIn 1560 (by decide +kernel) (by decide +kernel)
theorem dX11_reads_35 : decode cX11_reads 35 = .ok (.aload_n 0, 1) := by decide +kernel
theorem dX11_reads_36 : decode cX11_reads 36 = .ok (.getfield 97, 3) := by decide +kernel
theorem dX11_reads_39 : decode cX11_reads 39 = .ok (.iconst (-1), 1) := by decide +kernel
theorem dX11_reads_40 : decode cX11_reads 40 = .ok (.if_icmp .ne 20, 3) := by decide +kernel
theorem dX11_reads_60 : decode cX11_reads 60 = .ok (.aload_n 0, 1) := by decide +kernel
theorem dX11_reads_61 : decode cX11_reads 61 = .ok (.getfield 97, 3) := by decide +kernel
theorem dX11_reads_64 : decode cX11_reads 64 = .ok (.iconst (-1), 1) := by decide +kernel
theorem dX11_reads_65 : decode cX11_reads 65 = .ok (.if_icmp .ne 16, 3) := by decide +kernel
theorem dX11_reads_81 : decode cX11_reads 81 = .ok (.aload_n 0, 1) := by decide +kernel
theorem dX11_reads_82 : decode cX11_reads 82 = .ok (.getfield 97, 3) := by decide +kernel
theorem dX11_reads_85 : decode cX11_reads 85 = .ok (.iconst (-1), 1) := by decide +kernel
theorem dX11_reads_86 : decode cX11_reads 86 = .ok (.if_icmp .ne 19, 3) := by decide +kernel
theorem dX11_reads_105 : decode cX11_reads 105 = .ok (.aload_n 0, 1) := by decide +kernel
theorem dX11_reads_106 : decode cX11_reads 106 = .ok (.getfield 97, 3) := by decide +kernel
theorem dX11_reads_109 : decode cX11_reads 109 = .ok (.ireturn, 1) := by decide +kernel
theorem dX11_fault_0 : decode cX11_fault 0 = .ok (.aload_n 0, 1) := by decide +kernel
theorem dX11_fault_1 : decode cX11_fault 1 = .ok (.iconst 0, 1) := by decide +kernel
theorem dX11_fault_2 : decode cX11_fault 2 = .ok (.putfield 75, 3) := by decide +kernel
theorem dX11_fault_5 : decode cX11_fault 5 = .ok (.aload_n 0, 1) := by decide +kernel
theorem dX11_fault_6 : decode cX11_fault 6 = .ok (.invokevirtual 152, 3) := by decide +kernel
theorem w_1553 : Cond.methodLink "QuarterWalksModel" 152 yX11_reads ∈ wAll := wIn 1553 (by decide +kernel) (by decide +kernel)
theorem w_38 : Cond.selects yX11_reads.cls yX11_reads yX11_reads ∈ wAll := wIn 38 (by decide +kernel) (by decide +kernel)
theorem mk_X11_reads : mk yX11_reads 0 := ⟨by decide +kernel, w_110⟩
theorem w_1555 : Cond.instanceMethod yX11_reads ∈ wAll := wIn 1555 (by decide +kernel) (by decide +kernel)
theorem w_1556 : Cond.code yX11_reads cX11_reads 2 (some .int) ∈ wAll := wIn 1556 (by decide +kernel) (by decide +kernel)
theorem dX11_fault_9 : decode cX11_fault 9 = .ok (.ireturn, 1) := by decide +kernel
theorem dX11_tell_0 : decode cX11_tell 0 = .ok (.aload_n 0, 1) := by decide +kernel
theorem dX11_tell_1 : decode cX11_tell 1 = .ok (.iconst 0, 1) := by decide +kernel
theorem dX11_tell_2 : decode cX11_tell 2 = .ok (.putfield 75, 3) := by decide +kernel
theorem dX11_tell_5 : decode cX11_tell 5 = .ok (.aload_n 0, 1) := by decide +kernel
theorem dX11_tell_6 : decode cX11_tell 6 = .ok (.invokevirtual 152, 3) := by decide +kernel
theorem dX11_tell_9 : decode cX11_tell 9 = .ok (.iconst (-1), 1) := by decide +kernel
theorem dX11_tell_10 : decode cX11_tell 10 = .ok (.if_icmp .eq 9, 3) := by decide +kernel
theorem dX11_tell_13 : decode cX11_tell 13 = .ok (.aload_n 0, 1) := by decide +kernel
theorem dX11_tell_14 : decode cX11_tell 14 = .ok (.iconst 0, 1) := by decide +kernel
theorem dX11_tell_15 : decode cX11_tell 15 = .ok (.invokevirtual 165, 3) := by decide +kernel
theorem dX11_tell_18 : decode cX11_tell 18 = .ok (.ireturn, 1) := by decide +kernel
theorem dX11_undo_0 : decode cX11_undo 0 = .ok (.aload_n 0, 1) := by decide +kernel
theorem dX11_undo_1 : decode cX11_undo 1 = .ok (.iconst 0, 1) := by decide +kernel
theorem dX11_undo_2 : decode cX11_undo 2 = .ok (.putfield 75, 3) := by decide +kernel
theorem dX11_undo_5 : decode cX11_undo 5 = .ok (.aload_n 0, 1) := by decide +kernel
theorem dX11_undo_6 : decode cX11_undo 6 = .ok (.getfield 155, 3) := by decide +kernel
theorem w_1443 : Cond.fieldLink "QuarterWalksModel" 155 "QuarterWalksModel" "acts" "I" ∈ wAll := wIn 1443 (by decide +kernel) (by decide +kernel)
theorem fl_X11_155 : fl RX11 155 12 10 := ⟨RX11, TX11, 32, rfl, inA_X11, by decide, w_1443⟩
theorem dX11_undo_9 : decode cX11_undo 9 = .ok (.ifCond .ne 5, 3) := by decide +kernel
theorem dX11_undo_12 : decode cX11_undo 12 = .ok (.iconst (-1), 1) := by decide +kernel
theorem dX11_undo_13 : decode cX11_undo 13 = .ok (.ireturn, 1) := by decide +kernel
theorem dX11_back_0 : decode cX11_back 0 = .ok (.aload_n 0, 1) := by decide +kernel
theorem dX11_back_1 : decode cX11_back 1 = .ok (.iconst 0, 1) := by decide +kernel
theorem dX11_back_2 : decode cX11_back 2 = .ok (.putfield 75, 3) := by decide +kernel
theorem dX11_back_5 : decode cX11_back 5 = .ok (.aload_n 0, 1) := by decide +kernel
theorem dX11_back_6 : decode cX11_back 6 = .ok (.getfield 437, 3) := by decide +kernel
theorem w_1444 : Cond.fieldLink "QuarterWalksModel" 437 "QuarterWalksModel" "hasImage" "Z" ∈ wAll := wIn 1444 (by decide +kernel) (by decide +kernel)
theorem fl_X11_437 : fl RX11 437 12 11 := ⟨RX11, TX11, 32, rfl, inA_X11, by decide, w_1444⟩
theorem dX11_back_9 : decode cX11_back 9 = .ok (.ifCond .ne 5, 3) := by decide +kernel
theorem dX11_back_12 : decode cX11_back 12 = .ok (.iconst (-1), 1) := by decide +kernel
theorem dX11_back_13 : decode cX11_back 13 = .ok (.ireturn, 1) := by decide +kernel
theorem dX11_unlike_0 : decode cX11_unlike 0 = .ok (.iconst 0, 1) := by decide +kernel
theorem dX11_unlike_1 : decode cX11_unlike 1 = .ok (.istore_n 1, 1) := by decide +kernel
theorem dX11_unlike_2 : decode cX11_unlike 2 = .ok (.iconst 0, 1) := by decide +kernel
theorem dX11_unlike_3 : decode cX11_unlike 3 = .ok (.istore_n 2, 1) := by decide +kernel
theorem dX11_unlike_4 : decode cX11_unlike 4 = .ok (.iload_n 2, 1) := by decide +kernel
theorem dX11_unlike_5 : decode cX11_unlike 5 = .ok (.aload_n 0, 1) := by decide +kernel
theorem dX11_unlike_6 : decode cX11_unlike 6 = .ok (.getfield 17, 3) := by decide +kernel
theorem dX11_unlike_9 : decode cX11_unlike 9 = .ok (.bipush 80, 2) := by decide +kernel
theorem dX11_unlike_11 : decode cX11_unlike 11 = .ok (.iaload, 1) := by decide +kernel
theorem dX11_unlike_12 : decode cX11_unlike 12 = .ok (.if_icmp .ge 56, 3) := by decide +kernel
theorem dX11_unlike_68 : decode cX11_unlike 68 = .ok (.iload_n 1, 1) := by decide +kernel
theorem dX11_unlike_69 : decode cX11_unlike 69 = .ok (.ireturn, 1) := by decide +kernel
theorem dX11_image_0 : decode cX11_image 0 = .ok (.aload_n 0, 1) := by decide +kernel
theorem dX11_image_1 : decode cX11_image 1 = .ok (.iconst 0, 1) := by decide +kernel
theorem dX11_image_2 : decode cX11_image 2 = .ok (.putfield 75, 3) := by decide +kernel
theorem dX11_image_5 : decode cX11_image 5 = .ok (.iconst 0, 1) := by decide +kernel
theorem dX11_image_6 : decode cX11_image 6 = .ok (.istore_n 1, 1) := by decide +kernel
theorem dX11_image_7 : decode cX11_image 7 = .ok (.iload_n 1, 1) := by decide +kernel
theorem dX11_image_8 : decode cX11_image 8 = .ok (.bipush 81, 2) := by decide +kernel
theorem dX11_image_10 : decode cX11_image 10 = .ok (.if_icmp .ge 21, 3) := by decide +kernel
theorem dX11_image_13 : decode cX11_image 13 = .ok (.aload_n 0, 1) := by decide +kernel
theorem dX11_image_14 : decode cX11_image 14 = .ok (.getfield 20, 3) := by decide +kernel
theorem w_1440 : Cond.fieldLink "QuarterWalksModel" 20 "QuarterWalksModel" "image" "[I" ∈ wAll := wIn 1440 (by decide +kernel) (by decide +kernel)
theorem fl_X11_20 : fl RX11 20 12 7 := ⟨RX11, TX11, 32, rfl, inA_X11, by decide, w_1440⟩
theorem dX11_image_17 : decode cX11_image 17 = .ok (.iload_n 1, 1) := by decide +kernel
theorem dX11_image_18 : decode cX11_image 18 = .ok (.aload_n 0, 1) := by decide +kernel
theorem dX11_image_19 : decode cX11_image 19 = .ok (.getfield 17, 3) := by decide +kernel
theorem dX11_image_22 : decode cX11_image 22 = .ok (.iload_n 1, 1) := by decide +kernel
theorem dX11_image_23 : decode cX11_image 23 = .ok (.iaload, 1) := by decide +kernel
theorem dX11_image_24 : decode cX11_image 24 = .ok (.iastore, 1) := by decide +kernel
theorem dX11_image_25 : decode cX11_image 25 = .ok (.iinc 1 1, 3) := by decide +kernel
theorem dX11_image_28 : decode cX11_image 28 = .ok (.goto (-21), 3) := by decide +kernel
theorem dX11_image_31 : decode cX11_image 31 = .ok (.aload_n 0, 1) := by decide +kernel
theorem dX11_image_32 : decode cX11_image 32 = .ok (.iconst 1, 1) := by decide +kernel
theorem dX11_image_33 : decode cX11_image 33 = .ok (.putfield 437, 3) := by decide +kernel
theorem flw_X11_437 : flw RX11 437 12 11 (.boolean) := ⟨RX11, TX11, 32, tyX11, rfl, inA_X11, by decide, w_1444, tyX11_ok, nmX11, by decide +kernel, Or.inl rfl⟩
theorem dX11_image_36 : decode cX11_image 36 = .ok (.aload_n 0, 1) := by decide +kernel
theorem dX11_image_37 : decode cX11_image 37 = .ok (.getfield 17, 3) := by decide +kernel
theorem dX11_image_40 : decode cX11_image 40 = .ok (.bipush 80, 2) := by decide +kernel
theorem dX11_image_42 : decode cX11_image 42 = .ok (.iaload, 1) := by decide +kernel
theorem dX11_image_43 : decode cX11_image 43 = .ok (.ireturn, 1) := by decide +kernel
theorem dX11_end_0 : decode cX11_end 0 = .ok (.aload_n 0, 1) := by decide +kernel
theorem dX11_end_1 : decode cX11_end 1 = .ok (.iconst 0, 1) := by decide +kernel
theorem dX11_end_2 : decode cX11_end 2 = .ok (.putfield 75, 3) := by decide +kernel
theorem dX11_end_5 : decode cX11_end 5 = .ok (.iload_n 1, 1) := by decide +kernel
theorem dX11_end_6 : decode cX11_end 6 = .ok (.ifCond .lt 11, 3) := by decide +kernel
theorem dX11_end_17 : decode cX11_end 17 = .ok (.iconst 0, 1) := by decide +kernel
theorem dX11_end_18 : decode cX11_end 18 = .ok (.ireturn, 1) := by decide +kernel
theorem dX11_end_9 : decode cX11_end 9 = .ok (.iload_n 1, 1) := by decide +kernel
theorem dX11_end_10 : decode cX11_end 10 = .ok (.aload_n 0, 1) := by decide +kernel
theorem dX11_end_11 : decode cX11_end 11 = .ok (.getfield 79, 3) := by decide +kernel
theorem dX11_end_14 : decode cX11_end 14 = .ok (.if_icmp .le 5, 3) := by decide +kernel
theorem dX11_end_19 : decode cX11_end 19 = .ok (.aload_n 0, 1) := by decide +kernel
theorem dX11_end_20 : decode cX11_end 20 = .ok (.iload_n 1, 1) := by decide +kernel
theorem dX11_end_21 : decode cX11_end 21 = .ok (.putfield 79, 3) := by decide +kernel
theorem flw_X11_79 : flw RX11 79 12 2 (.int) := ⟨RX11, TX11, 32, tyX11, rfl, inA_X11, by decide, w_1435, tyX11_ok, nmX11, by decide +kernel, Or.inl rfl⟩
theorem dX11_end_24 : decode cX11_end 24 = .ok (.iconst 1, 1) := by decide +kernel
theorem dX11_end_25 : decode cX11_end 25 = .ok (.ireturn, 1) := by decide +kernel
theorem dX11_count_0 : decode cX11_count 0 = .ok (.aload_n 0, 1) := by decide +kernel
theorem dX11_count_1 : decode cX11_count 1 = .ok (.iconst 0, 1) := by decide +kernel
theorem dX11_count_2 : decode cX11_count 2 = .ok (.putfield 75, 3) := by decide +kernel
theorem dX11_count_5 : decode cX11_count 5 = .ok (.iload_n 1, 1) := by decide +kernel
theorem dX11_count_6 : decode cX11_count 6 = .ok (.ifCond .ne 10, 3) := by decide +kernel
theorem dX11_count_16 : decode cX11_count 16 = .ok (.iload_n 1, 1) := by decide +kernel
theorem dX11_count_17 : decode cX11_count 17 = .ok (.iconst 1, 1) := by decide +kernel
theorem dX11_count_18 : decode cX11_count 18 = .ok (.if_icmp .ne 10, 3) := by decide +kernel
theorem dX11_count_28 : decode cX11_count 28 = .ok (.iload_n 1, 1) := by decide +kernel
theorem dX11_count_29 : decode cX11_count 29 = .ok (.iconst 2, 1) := by decide +kernel
theorem dX11_count_30 : decode cX11_count 30 = .ok (.if_icmp .ne 13, 3) := by decide +kernel
theorem dX11_count_43 : decode cX11_count 43 = .ok (.iconst (-1), 1) := by decide +kernel
theorem dX11_count_44 : decode cX11_count 44 = .ok (.ireturn, 1) := by decide +kernel
theorem dX11_count_33 : decode cX11_count 33 = .ok (.aload_n 0, 1) := by decide +kernel
theorem dX11_count_34 : decode cX11_count 34 = .ok (.getfield 17, 3) := by decide +kernel
theorem dX11_count_37 : decode cX11_count 37 = .ok (.bipush 80, 2) := by decide +kernel
theorem dX11_count_39 : decode cX11_count 39 = .ok (.iaload, 1) := by decide +kernel
theorem dX11_count_40 : decode cX11_count 40 = .ok (.goto 4, 3) := by decide +kernel
theorem dX11_count_21 : decode cX11_count 21 = .ok (.aload_n 0, 1) := by decide +kernel
theorem dX11_count_22 : decode cX11_count 22 = .ok (.getfield 155, 3) := by decide +kernel
theorem dX11_count_25 : decode cX11_count 25 = .ok (.goto 19, 3) := by decide +kernel
theorem dX11_count_9 : decode cX11_count 9 = .ok (.aload_n 0, 1) := by decide +kernel
theorem dX11_count_10 : decode cX11_count 10 = .ok (.getfield 79, 3) := by decide +kernel
theorem dX11_count_13 : decode cX11_count 13 = .ok (.goto 31, 3) := by decide +kernel
theorem dX11_most_0 : decode cX11_most 0 = .ok (.aload_n 0, 1) := by decide +kernel
theorem dX11_most_1 : decode cX11_most 1 = .ok (.iconst 0, 1) := by decide +kernel
theorem dX11_most_2 : decode cX11_most 2 = .ok (.putfield 75, 3) := by decide +kernel
theorem dX11_most_5 : decode cX11_most 5 = .ok (.iload_n 1, 1) := by decide +kernel
theorem dX11_most_6 : decode cX11_most 6 = .ok (.iconst 3, 1) := by decide +kernel
theorem dX11_most_7 : decode cX11_most 7 = .ok (.if_icmp .ne 8, 3) := by decide +kernel
theorem dX11_most_15 : decode cX11_most 15 = .ok (.aload_n 0, 1) := by decide +kernel
theorem dX11_most_16 : decode cX11_most 16 = .ok (.getfield 17, 3) := by decide +kernel
theorem dX11_most_19 : decode cX11_most 19 = .ok (.bipush 80, 2) := by decide +kernel
theorem dX11_most_21 : decode cX11_most 21 = .ok (.iaload, 1) := by decide +kernel
theorem dX11_most_22 : decode cX11_most 22 = .ok (.ifCond .eq 15, 3) := by decide +kernel
theorem dX11_most_37 : decode cX11_most 37 = .ok (.iconst (-1), 1) := by decide +kernel
theorem dX11_most_38 : decode cX11_most 38 = .ok (.ireturn, 1) := by decide +kernel
theorem dX11_most_10 : decode cX11_most 10 = .ok (.aload_n 0, 1) := by decide +kernel
theorem dX11_most_11 : decode cX11_most 11 = .ok (.invokevirtual 447, 3) := by decide +kernel
theorem w_2042 : Cond.methodLink "QuarterWalksModel" 447 yX11_unlike ∈ wAll := wIn 2042 (by decide +kernel) (by decide +kernel)
theorem w_91 : Cond.selects yX11_unlike.cls yX11_unlike yX11_unlike ∈ wAll := wIn 91 (by decide +kernel) (by decide +kernel)
theorem mk_X11_unlike : mk yX11_unlike 0 := ⟨by decide +kernel, w_110⟩
theorem w_2044 : Cond.instanceMethod yX11_unlike ∈ wAll := wIn 2044 (by decide +kernel) (by decide +kernel)
theorem w_2045 : Cond.code yX11_unlike cX11_unlike 5 (some .int) ∈ wAll := wIn 2045 (by decide +kernel) (by decide +kernel)
theorem dX11_most_14 : decode cX11_most 14 = .ok (.ireturn, 1) := by decide +kernel
theorem dX11_status_0 : decode cX11_status 0 = .ok (.aload_n 0, 1) := by decide +kernel
theorem dX11_status_1 : decode cX11_status 1 = .ok (.iconst 0, 1) := by decide +kernel
theorem dX11_status_2 : decode cX11_status 2 = .ok (.putfield 75, 3) := by decide +kernel
theorem dX11_status_5 : decode cX11_status 5 = .ok (.iload_n 1, 1) := by decide +kernel
theorem dX11_status_6 : decode cX11_status 6 = .ok (.i2l, 1) := by decide +kernel
theorem dX11_status_7 : decode cX11_status 7 = .ok (.lconst 0, 1) := by decide +kernel
theorem dX11_status_8 : decode cX11_status 8 = .ok (.ldc2_w 389, 3) := by decide +kernel
theorem w_1944 : Cond.constantLong "QuarterWalksModel" 389 3 ∈ wAll := wIn 1944 (by decide +kernel) (by decide +kernel)
theorem dX11_status_11 : decode cX11_status 11 = .ok (.invokestatic 158, 3) := by decide +kernel
theorem dX11_status_14 : decode cX11_status 14 = .ok (.ifCond .eq 12, 3) := by decide +kernel
theorem dX11_status_26 : decode cX11_status 26 = .ok (.iconst (-1), 1) := by decide +kernel
theorem dX11_status_27 : decode cX11_status 27 = .ok (.ireturn, 1) := by decide +kernel
theorem dX11_status_17 : decode cX11_status 17 = .ok (.aload_n 0, 1) := by decide +kernel
theorem dX11_status_18 : decode cX11_status 18 = .ok (.getfield 26, 3) := by decide +kernel
theorem dX11_status_21 : decode cX11_status 21 = .ok (.iload_n 1, 1) := by decide +kernel
theorem dX11_status_22 : decode cX11_status 22 = .ok (.iaload, 1) := by decide +kernel
theorem dX11_status_23 : decode cX11_status 23 = .ok (.goto 4, 3) := by decide +kernel
theorem dJ7_fill_53178_0 : decode cJ7_fill_53178 0 = .ok (.iconst 0, 1) := by decide +kernel
theorem dJ7_fill_53178_1 : decode cJ7_fill_53178 1 = .ok (.istore_n 2, 1) := by decide +kernel
theorem dJ7_fill_53178_2 : decode cJ7_fill_53178 2 = .ok (.aload_n 0, 1) := by decide +kernel
theorem dJ7_fill_53178_3 : decode cJ7_fill_53178 3 = .ok (.arraylength, 1) := by decide +kernel
theorem dJ7_fill_53178_4 : decode cJ7_fill_53178 4 = .ok (.istore_n 3, 1) := by decide +kernel
theorem dJ7_fill_53178_5 : decode cJ7_fill_53178 5 = .ok (.iload_n 2, 1) := by decide +kernel
theorem dJ7_fill_53178_6 : decode cJ7_fill_53178 6 = .ok (.iload_n 3, 1) := by decide +kernel
theorem dJ7_fill_53178_7 : decode cJ7_fill_53178 7 = .ok (.if_icmp .ge 13, 3) := by decide +kernel
theorem dJ7_fill_53178_10 : decode cJ7_fill_53178 10 = .ok (.aload_n 0, 1) := by decide +kernel
theorem dJ7_fill_53178_11 : decode cJ7_fill_53178 11 = .ok (.iload_n 2, 1) := by decide +kernel
theorem dJ7_fill_53178_12 : decode cJ7_fill_53178 12 = .ok (.iload_n 1, 1) := by decide +kernel
theorem dJ7_fill_53178_13 : decode cJ7_fill_53178 13 = .ok (.iastore, 1) := by decide +kernel
theorem dJ7_fill_53178_14 : decode cJ7_fill_53178 14 = .ok (.iinc 2 1, 3) := by decide +kernel
theorem dJ7_fill_53178_17 : decode cJ7_fill_53178 17 = .ok (.goto (-12), 3) := by decide +kernel
theorem dJ7_fill_53178_20 : decode cJ7_fill_53178 20 = .ok (.return_, 1) := by decide +kernel
theorem dX7_read_0 : decode cX7_read 0 = .ok (.aload_n 0, 1) := by decide +kernel
theorem dX7_read_1 : decode cX7_read 1 = .ok (.getfield 15, 3) := by decide +kernel
theorem w_146 : Cond.lays "QuarterWalks$Tape" "QuarterWalks$Tape" "length" "I" ∈ wAll := wIn 146 (by decide +kernel) (by decide +kernel)
theorem w_148 : Cond.laysFinal "QuarterWalks$Tape" "QuarterWalks$Tape" "bytes" "[I" ∈ wAll := wIn 148 (by decide +kernel) (by decide +kernel)
theorem w_150 : Cond.laysFinal "QuarterWalks$Tape" "QuarterWalks$Tape" "weights" "[I" ∈ wAll := wIn 150 (by decide +kernel) (by decide +kernel)
theorem w_152 : Cond.lays "QuarterWalks$Tape" "QuarterWalks$Tape" "startX" "I" ∈ wAll := wIn 152 (by decide +kernel) (by decide +kernel)
theorem w_154 : Cond.lays "QuarterWalks$Tape" "QuarterWalks$Tape" "startY" "I" ∈ wAll := wIn 154 (by decide +kernel) (by decide +kernel)
theorem w_156 : Cond.lays "QuarterWalks$Tape" "QuarterWalks$Tape" "behind" "I" ∈ wAll := wIn 156 (by decide +kernel) (by decide +kernel)
theorem w_158 : Cond.lays "QuarterWalks$Tape" "QuarterWalks$Tape" "lastStep" "I" ∈ wAll := wIn 158 (by decide +kernel) (by decide +kernel)
theorem inA_X7 : ∀ w ∈ u_ws RX7 TX7 7, w ∈ wAll := List.forall_mem_cons.mpr ⟨w_146, List.forall_mem_cons.mpr ⟨w_148, List.forall_mem_cons.mpr ⟨w_150, List.forall_mem_cons.mpr ⟨w_152, List.forall_mem_cons.mpr ⟨w_154, List.forall_mem_cons.mpr ⟨w_156, List.forall_mem_cons.mpr ⟨w_158, fun _ h => absurd h List.not_mem_nil⟩⟩⟩⟩⟩⟩⟩
theorem w_141 : Cond.fieldLink "QuarterWalks$Tape" 15 "QuarterWalks$Tape" "weights" "[I" ∈ wAll := wIn 141 (by decide +kernel) (by decide +kernel)
theorem fl_X7_15 : fl RX7 15 8 2 := ⟨RX7, TX7, 7, rfl, inA_X7, by decide, w_141⟩
theorem dX7_read_4 : decode cX7_read 4 = .ok (.iconst 0, 1) := by decide +kernel
theorem dX7_read_5 : decode cX7_read 5 = .ok (.invokestatic 33, 3) := by decide +kernel
theorem w_436 : Cond.methodLink "QuarterWalks$Tape" 33 yJ7_fill_53178 ∈ wAll := wIn 436 (by decide +kernel) (by decide +kernel)
theorem w_111 : Cond.initialized "java/util/Arrays" ∈ wAll := wIn 111 (by decide +kernel) (by decide +kernel)
theorem mk_J7_fill_53178 : mk yJ7_fill_53178 2 := ⟨by decide +kernel, w_111⟩
theorem w_437 : Cond.static yJ7_fill_53178 ∈ wAll := wIn 437 (by decide +kernel) (by decide +kernel)
theorem w_438 : Cond.code yJ7_fill_53178 cJ7_fill_53178 4 none ∈ wAll := wIn 438 (by decide +kernel) (by decide +kernel)
theorem dX7_read_8 : decode cX7_read 8 = .ok (.aload_n 0, 1) := by decide +kernel
theorem dX7_read_9 : decode cX7_read 9 = .ok (.iconst 0, 1) := by decide +kernel
theorem dX7_read_10 : decode cX7_read 10 = .ok (.putfield 24, 3) := by decide +kernel
theorem w_142 : Cond.fieldLink "QuarterWalks$Tape" 24 "QuarterWalks$Tape" "startX" "I" ∈ wAll := wIn 142 (by decide +kernel) (by decide +kernel)
theorem flw_X7_24 : flw RX7 24 8 3 (.int) := ⟨RX7, TX7, 7, tyX7, rfl, inA_X7, by decide, w_142, tyX7_ok, nmX7, by decide +kernel, Or.inl rfl⟩
theorem dX7_read_13 : decode cX7_read 13 = .ok (.aload_n 0, 1) := by decide +kernel
theorem dX7_read_14 : decode cX7_read 14 = .ok (.iconst 0, 1) := by decide +kernel
theorem dX7_read_15 : decode cX7_read 15 = .ok (.putfield 27, 3) := by decide +kernel
theorem w_143 : Cond.fieldLink "QuarterWalks$Tape" 27 "QuarterWalks$Tape" "startY" "I" ∈ wAll := wIn 143 (by decide +kernel) (by decide +kernel)
theorem flw_X7_27 : flw RX7 27 8 4 (.int) := ⟨RX7, TX7, 7, tyX7, rfl, inA_X7, by decide, w_143, tyX7_ok, nmX7, by decide +kernel, Or.inl rfl⟩
theorem dX7_read_18 : decode cX7_read 18 = .ok (.aload_n 0, 1) := by decide +kernel
theorem dX7_read_19 : decode cX7_read 19 = .ok (.iconst 0, 1) := by decide +kernel
theorem dX7_read_20 : decode cX7_read 20 = .ok (.putfield 39, 3) := by decide +kernel
theorem w_144 : Cond.fieldLink "QuarterWalks$Tape" 39 "QuarterWalks$Tape" "behind" "I" ∈ wAll := wIn 144 (by decide +kernel) (by decide +kernel)
theorem flw_X7_39 : flw RX7 39 8 5 (.int) := ⟨RX7, TX7, 7, tyX7, rfl, inA_X7, by decide, w_144, tyX7_ok, nmX7, by decide +kernel, Or.inl rfl⟩
theorem dX7_read_23 : decode cX7_read 23 = .ok (.aload_n 0, 1) := by decide +kernel
theorem dX7_read_24 : decode cX7_read 24 = .ok (.iconst 0, 1) := by decide +kernel
theorem dX7_read_25 : decode cX7_read 25 = .ok (.putfield 42, 3) := by decide +kernel
theorem w_145 : Cond.fieldLink "QuarterWalks$Tape" 42 "QuarterWalks$Tape" "lastStep" "I" ∈ wAll := wIn 145 (by decide +kernel) (by decide +kernel)
theorem flw_X7_42 : flw RX7 42 8 6 (.int) := ⟨RX7, TX7, 7, tyX7, rfl, inA_X7, by decide, w_145, tyX7_ok, nmX7, by decide +kernel, Or.inl rfl⟩
theorem dX7_read_28 : decode cX7_read 28 = .ok (.iconst 0, 1) := by decide +kernel
theorem dX7_read_29 : decode cX7_read 29 = .ok (.istore_n 1, 1) := by decide +kernel
theorem dX7_read_30 : decode cX7_read 30 = .ok (.iconst 0, 1) := by decide +kernel
theorem dX7_read_31 : decode cX7_read 31 = .ok (.istore_n 2, 1) := by decide +kernel
theorem dX7_read_32 : decode cX7_read 32 = .ok (.iload_n 2, 1) := by decide +kernel
theorem dX7_read_33 : decode cX7_read 33 = .ok (.aload_n 0, 1) := by decide +kernel
theorem dX7_read_34 : decode cX7_read 34 = .ok (.getfield 18, 3) := by decide +kernel
theorem w_139 : Cond.fieldLink "QuarterWalks$Tape" 18 "QuarterWalks$Tape" "length" "I" ∈ wAll := wIn 139 (by decide +kernel) (by decide +kernel)
theorem fl_X7_18 : fl RX7 18 8 0 := ⟨RX7, TX7, 7, rfl, inA_X7, by decide, w_139⟩
theorem dX7_read_37 : decode cX7_read 37 = .ok (.if_icmp .ge 42, 3) := by decide +kernel
theorem dX7_read_79 : decode cX7_read 79 = .ok (.aload_n 0, 1) := by decide +kernel
theorem dX7_read_80 : decode cX7_read 80 = .ok (.getfield 39, 3) := by decide +kernel
theorem fl_X7_39 : fl RX7 39 8 5 := ⟨RX7, TX7, 7, rfl, inA_X7, by decide, w_144⟩
theorem dX7_read_83 : decode cX7_read 83 = .ok (.iconst 1, 1) := by decide +kernel
theorem dX7_read_84 : decode cX7_read 84 = .ok (.if_icmp .eq 20, 3) := by decide +kernel
theorem dX7_read_87 : decode cX7_read 87 = .ok (.aload_n 0, 1) := by decide +kernel
theorem dX7_read_88 : decode cX7_read 88 = .ok (.getfield 39, 3) := by decide +kernel
theorem dX7_read_91 : decode cX7_read 91 = .ok (.iconst 2, 1) := by decide +kernel
theorem dX7_read_92 : decode cX7_read 92 = .ok (.if_icmp .eq 12, 3) := by decide +kernel
theorem dX7_read_95 : decode cX7_read 95 = .ok (.aload_n 0, 1) := by decide +kernel
theorem dX7_read_96 : decode cX7_read 96 = .ok (.getfield 39, 3) := by decide +kernel
theorem dX7_read_99 : decode cX7_read 99 = .ok (.bipush 6, 2) := by decide +kernel
theorem dX7_read_101 : decode cX7_read 101 = .ok (.if_icmp .ne 7, 3) := by decide +kernel
theorem dX7_read_108 : decode cX7_read 108 = .ok (.aload_n 0, 1) := by decide +kernel
theorem dX7_read_109 : decode cX7_read 109 = .ok (.getfield 18, 3) := by decide +kernel
theorem dX7_read_112 : decode cX7_read 112 = .ok (.ireturn, 1) := by decide +kernel
theorem dX0_size_0 : decode cX0_size 0 = .ok (.aload_n 0, 1) := by decide +kernel
theorem dX0_size_1 : decode cX0_size 1 = .ok (.getfield 12, 3) := by decide +kernel
theorem dX0_size_4 : decode cX0_size 4 = .ok (.getfield 25, 3) := by decide +kernel
theorem dX0_size_7 : decode cX0_size 7 = .ok (.ireturn, 1) := by decide +kernel
theorem dX10_unlikeSets_0 : decode cX10_unlikeSets 0 = .ok (.iconst 0, 1) := by decide +kernel
theorem dX10_unlikeSets_1 : decode cX10_unlikeSets 1 = .ok (.istore_n 1, 1) := by decide +kernel
theorem dX10_unlikeSets_2 : decode cX10_unlikeSets 2 = .ok (.iconst 0, 1) := by decide +kernel
theorem dX10_unlikeSets_3 : decode cX10_unlikeSets 3 = .ok (.istore_n 2, 1) := by decide +kernel
theorem dX10_unlikeSets_4 : decode cX10_unlikeSets 4 = .ok (.iload_n 2, 1) := by decide +kernel
theorem dX10_unlikeSets_5 : decode cX10_unlikeSets 5 = .ok (.aload_n 0, 1) := by decide +kernel
theorem dX10_unlikeSets_6 : decode cX10_unlikeSets 6 = .ok (.getfield 19, 3) := by decide +kernel
theorem dX10_unlikeSets_9 : decode cX10_unlikeSets 9 = .ok (.invokevirtual 370, 3) := by decide +kernel
theorem w_1321 : Cond.methodLink "QuarterWalks" 370 yX0_size ∈ wAll := wIn 1321 (by decide +kernel) (by decide +kernel)
theorem w_1323 : Cond.selects yX0_size.cls yX0_size yX0_size ∈ wAll := wIn 1323 (by decide +kernel) (by decide +kernel)
theorem mk_X0_size : mk yX0_size 0 := ⟨by decide +kernel, w_98⟩
theorem w_1322 : Cond.instanceMethod yX0_size ∈ wAll := wIn 1322 (by decide +kernel) (by decide +kernel)
theorem w_1324 : Cond.code yX0_size cX0_size 1 (some .int) ∈ wAll := wIn 1324 (by decide +kernel) (by decide +kernel)
theorem dX10_unlikeSets_12 : decode cX10_unlikeSets 12 = .ok (.if_icmp .ge 20, 3) := by decide +kernel
theorem dX10_unlikeSets_32 : decode cX10_unlikeSets 32 = .ok (.iload_n 1, 1) := by decide +kernel
theorem dX10_unlikeSets_33 : decode cX10_unlikeSets 33 = .ok (.ireturn, 1) := by decide +kernel
theorem dX0_takeBack_0 : decode cX0_takeBack 0 = .ok (.aload_n 0, 1) := by decide +kernel
theorem dX0_takeBack_1 : decode cX0_takeBack 1 = .ok (.getfield 51, 3) := by decide +kernel
theorem w_186 : Cond.fieldLink "QuarterWalks$Book" 51 "QuarterWalks$Book" "past" "I" ∈ wAll := wIn 186 (by decide +kernel) (by decide +kernel)
theorem fl_X0_51 : fl RX0 51 1 0 := ⟨RX0, TX0, 6, rfl, inA_X0, by decide, w_186⟩
theorem dX0_takeBack_4 : decode cX0_takeBack 4 = .ok (.ifCond .ne 5, 3) := by decide +kernel
theorem dX0_takeBack_7 : decode cX0_takeBack 7 = .ok (.iconst (-1), 1) := by decide +kernel
theorem dX0_takeBack_8 : decode cX0_takeBack 8 = .ok (.ireturn, 1) := by decide +kernel
theorem dX0_restore_0 : decode cX0_restore 0 = .ok (.aload_n 0, 1) := by decide +kernel
theorem dX0_restore_1 : decode cX0_restore 1 = .ok (.getfield 60, 3) := by decide +kernel
theorem w_191 : Cond.fieldLink "QuarterWalks$Book" 60 "QuarterWalks$Book" "isKept" "Z" ∈ wAll := wIn 191 (by decide +kernel) (by decide +kernel)
theorem fl_X0_60 : fl RX0 60 1 4 := ⟨RX0, TX0, 6, rfl, inA_X0, by decide, w_191⟩
theorem dX0_restore_4 : decode cX0_restore 4 = .ok (.ifCond .ne 5, 3) := by decide +kernel
theorem dX0_restore_7 : decode cX0_restore 7 = .ok (.iconst (-1), 1) := by decide +kernel
theorem dX0_restore_8 : decode cX0_restore 8 = .ok (.ireturn, 1) := by decide +kernel
theorem dX5_copy_0 : decode cX5_copy 0 = .ok (.iconst 0, 1) := by decide +kernel
theorem dX5_copy_1 : decode cX5_copy 1 = .ok (.istore_n 2, 1) := by decide +kernel
theorem dX5_copy_2 : decode cX5_copy 2 = .ok (.iload_n 2, 1) := by decide +kernel
theorem dX5_copy_3 : decode cX5_copy 3 = .ok (.bipush 8, 2) := by decide +kernel
theorem dX5_copy_5 : decode cX5_copy 5 = .ok (.if_icmp .ge 21, 3) := by decide +kernel
theorem dX5_copy_8 : decode cX5_copy 8 = .ok (.aload_n 0, 1) := by decide +kernel
theorem dX5_copy_9 : decode cX5_copy 9 = .ok (.getfield 11, 3) := by decide +kernel
theorem w_176 : Cond.fieldLink "QuarterWalks$Shelf" 11 "QuarterWalks$Shelf" "sets" "[LQuarterWalks$StepSet;" ∈ wAll := wIn 176 (by decide +kernel) (by decide +kernel)
theorem fl_X5_11 : fl RX5 11 6 0 := ⟨RX5, TX5, 2, rfl, inA_X5, by decide, w_176⟩
theorem dX5_copy_12 : decode cX5_copy 12 = .ok (.iload_n 2, 1) := by decide +kernel
theorem dX5_copy_13 : decode cX5_copy 13 = .ok (.aload_n 1, 1) := by decide +kernel
theorem dX5_copy_14 : decode cX5_copy 14 = .ok (.getfield 11, 3) := by decide +kernel
theorem dX5_copy_17 : decode cX5_copy 17 = .ok (.iload_n 2, 1) := by decide +kernel
theorem dX5_copy_18 : decode cX5_copy 18 = .ok (.aaload, 1) := by decide +kernel
theorem dX5_copy_19 : decode cX5_copy 19 = .ok (.aastore, 1) := by decide +kernel
theorem dX5_copy_20 : decode cX5_copy 20 = .ok (.iinc 2 1, 3) := by decide +kernel
theorem dX5_copy_23 : decode cX5_copy 23 = .ok (.goto (-21), 3) := by decide +kernel
theorem dX5_copy_26 : decode cX5_copy 26 = .ok (.aload_n 0, 1) := by decide +kernel
theorem dX5_copy_27 : decode cX5_copy 27 = .ok (.aload_n 1, 1) := by decide +kernel
theorem dX5_copy_28 : decode cX5_copy 28 = .ok (.getfield 15, 3) := by decide +kernel
theorem w_179 : Cond.fieldLink "QuarterWalks$Shelf" 15 "QuarterWalks$Shelf" "size" "I" ∈ wAll := wIn 179 (by decide +kernel) (by decide +kernel)
theorem fl_X5_15 : fl RX5 15 6 1 := ⟨RX5, TX5, 2, rfl, inA_X5, by decide, w_179⟩
theorem dX5_copy_31 : decode cX5_copy 31 = .ok (.putfield 15, 3) := by decide +kernel
theorem flw_X5_15 : flw RX5 15 6 1 (.int) := ⟨RX5, TX5, 2, tyX5, rfl, inA_X5, by decide, w_179, tyX5_ok, nmX5, by decide +kernel, Or.inl rfl⟩
theorem dX5_copy_34 : decode cX5_copy 34 = .ok (.return_, 1) := by decide +kernel
theorem dX0_keep_0 : decode cX0_keep 0 = .ok (.aload_n 0, 1) := by decide +kernel
theorem dX0_keep_1 : decode cX0_keep 1 = .ok (.getfield 18, 3) := by decide +kernel
theorem w_189 : Cond.fieldLink "QuarterWalks$Book" 18 "QuarterWalks$Book" "kept" "LQuarterWalks$Shelf;" ∈ wAll := wIn 189 (by decide +kernel) (by decide +kernel)
theorem fl_X0_18 : fl RX0 18 1 2 := ⟨RX0, TX0, 6, rfl, inA_X0, by decide, w_189⟩
theorem dX0_keep_4 : decode cX0_keep 4 = .ok (.aload_n 0, 1) := by decide +kernel
theorem dX0_keep_5 : decode cX0_keep 5 = .ok (.getfield 12, 3) := by decide +kernel
theorem dX0_keep_8 : decode cX0_keep 8 = .ok (.invokevirtual 47, 3) := by decide +kernel
theorem w_585 : Cond.methodLink "QuarterWalks$Book" 47 yX5_copy ∈ wAll := wIn 585 (by decide +kernel) (by decide +kernel)
theorem w_587 : Cond.selects yX5_copy.cls yX5_copy yX5_copy ∈ wAll := wIn 587 (by decide +kernel) (by decide +kernel)
theorem w_99 : Cond.initialized "QuarterWalks$Shelf" ∈ wAll := wIn 99 (by decide +kernel) (by decide +kernel)
theorem mk_X5_copy : mk yX5_copy 1 := ⟨by decide +kernel, w_99⟩
theorem w_586 : Cond.instanceMethod yX5_copy ∈ wAll := wIn 586 (by decide +kernel) (by decide +kernel)
theorem w_588 : Cond.code yX5_copy cX5_copy 3 none ∈ wAll := wIn 588 (by decide +kernel) (by decide +kernel)
theorem dX0_keep_11 : decode cX0_keep 11 = .ok (.aload_n 0, 1) := by decide +kernel
theorem dX0_keep_12 : decode cX0_keep 12 = .ok (.iconst 1, 1) := by decide +kernel
theorem dX0_keep_13 : decode cX0_keep 13 = .ok (.putfield 60, 3) := by decide +kernel
theorem flw_X0_60 : flw RX0 60 1 4 (.boolean) := ⟨RX0, TX0, 6, tyX0, rfl, inA_X0, by decide, w_191, tyX0_ok, nmX0, by decide +kernel, Or.inl rfl⟩
theorem dX0_keep_16 : decode cX0_keep 16 = .ok (.aload_n 0, 1) := by decide +kernel
theorem dX0_keep_17 : decode cX0_keep 17 = .ok (.getfield 12, 3) := by decide +kernel
theorem dX0_keep_20 : decode cX0_keep 20 = .ok (.getfield 25, 3) := by decide +kernel
theorem dX0_keep_23 : decode cX0_keep 23 = .ok (.ireturn, 1) := by decide +kernel
theorem dX10_fault_0 : decode cX10_fault 0 = .ok (.aload_n 0, 1) := by decide +kernel
theorem dX10_fault_1 : decode cX10_fault 1 = .ok (.getfield 12, 3) := by decide +kernel
theorem w_379 : Cond.fieldLink "QuarterWalks" 12 "QuarterWalks" "tape" "LQuarterWalks$Tape;" ∈ wAll := wIn 379 (by decide +kernel) (by decide +kernel)
theorem fl_X10_12 : fl RX10 12 11 0 := ⟨RX10, TX10, 10, rfl, inA_X10, by decide, w_379⟩
theorem dX10_fault_4 : decode cX10_fault 4 = .ok (.invokevirtual 91, 3) := by decide +kernel
theorem w_432 : Cond.methodLink "QuarterWalks" 91 yX7_read ∈ wAll := wIn 432 (by decide +kernel) (by decide +kernel)
theorem w_434 : Cond.selects yX7_read.cls yX7_read yX7_read ∈ wAll := wIn 434 (by decide +kernel) (by decide +kernel)
theorem w_97 : Cond.initialized "QuarterWalks$Tape" ∈ wAll := wIn 97 (by decide +kernel) (by decide +kernel)
theorem mk_X7_read : mk yX7_read 0 := ⟨by decide +kernel, w_97⟩
theorem w_433 : Cond.instanceMethod yX7_read ∈ wAll := wIn 433 (by decide +kernel) (by decide +kernel)
theorem w_435 : Cond.code yX7_read cX7_read 3 (some .int) ∈ wAll := wIn 435 (by decide +kernel) (by decide +kernel)
theorem dX10_fault_7 : decode cX10_fault 7 = .ok (.ireturn, 1) := by decide +kernel
theorem dX10_tell_0 : decode cX10_tell 0 = .ok (.aload_n 0, 1) := by decide +kernel
theorem dX10_tell_1 : decode cX10_tell 1 = .ok (.getfield 12, 3) := by decide +kernel
theorem dX10_tell_4 : decode cX10_tell 4 = .ok (.invokevirtual 91, 3) := by decide +kernel
theorem dX10_tell_7 : decode cX10_tell 7 = .ok (.iconst (-1), 1) := by decide +kernel
theorem dX10_tell_8 : decode cX10_tell 8 = .ok (.if_icmp .eq 9, 3) := by decide +kernel
theorem dX10_tell_11 : decode cX10_tell 11 = .ok (.aload_n 0, 1) := by decide +kernel
theorem dX10_tell_12 : decode cX10_tell 12 = .ok (.iconst 0, 1) := by decide +kernel
theorem dX10_tell_13 : decode cX10_tell 13 = .ok (.invokevirtual 95, 3) := by decide +kernel
theorem dX10_tell_16 : decode cX10_tell 16 = .ok (.ireturn, 1) := by decide +kernel
theorem dX10_undo_0 : decode cX10_undo 0 = .ok (.aload_n 0, 1) := by decide +kernel
theorem dX10_undo_1 : decode cX10_undo 1 = .ok (.getfield 19, 3) := by decide +kernel
theorem dX10_undo_4 : decode cX10_undo 4 = .ok (.invokevirtual 358, 3) := by decide +kernel
theorem w_1289 : Cond.methodLink "QuarterWalks" 358 yX0_takeBack ∈ wAll := wIn 1289 (by decide +kernel) (by decide +kernel)
theorem w_1291 : Cond.selects yX0_takeBack.cls yX0_takeBack yX0_takeBack ∈ wAll := wIn 1291 (by decide +kernel) (by decide +kernel)
theorem mk_X0_takeBack : mk yX0_takeBack 0 := ⟨by decide +kernel, w_98⟩
theorem w_1290 : Cond.instanceMethod yX0_takeBack ∈ wAll := wIn 1290 (by decide +kernel) (by decide +kernel)
theorem w_1292 : Cond.code yX0_takeBack cX0_takeBack 1 (some .int) ∈ wAll := wIn 1292 (by decide +kernel) (by decide +kernel)
theorem dX10_undo_7 : decode cX10_undo 7 = .ok (.ireturn, 1) := by decide +kernel
theorem dX10_back_0 : decode cX10_back 0 = .ok (.aload_n 0, 1) := by decide +kernel
theorem dX10_back_1 : decode cX10_back 1 = .ok (.getfield 19, 3) := by decide +kernel
theorem dX10_back_4 : decode cX10_back 4 = .ok (.invokevirtual 364, 3) := by decide +kernel
theorem w_1305 : Cond.methodLink "QuarterWalks" 364 yX0_restore ∈ wAll := wIn 1305 (by decide +kernel) (by decide +kernel)
theorem w_1307 : Cond.selects yX0_restore.cls yX0_restore yX0_restore ∈ wAll := wIn 1307 (by decide +kernel) (by decide +kernel)
theorem mk_X0_restore : mk yX0_restore 0 := ⟨by decide +kernel, w_98⟩
theorem w_1306 : Cond.instanceMethod yX0_restore ∈ wAll := wIn 1306 (by decide +kernel) (by decide +kernel)
theorem w_1308 : Cond.code yX0_restore cX0_restore 1 (some .int) ∈ wAll := wIn 1308 (by decide +kernel) (by decide +kernel)
theorem dX10_back_7 : decode cX10_back 7 = .ok (.ireturn, 1) := by decide +kernel
theorem dX10_image_0 : decode cX10_image 0 = .ok (.aload_n 0, 1) := by decide +kernel
theorem dX10_image_1 : decode cX10_image 1 = .ok (.getfield 19, 3) := by decide +kernel
theorem dX10_image_4 : decode cX10_image 4 = .ok (.invokevirtual 361, 3) := by decide +kernel
theorem w_1297 : Cond.methodLink "QuarterWalks" 361 yX0_keep ∈ wAll := wIn 1297 (by decide +kernel) (by decide +kernel)
theorem w_1299 : Cond.selects yX0_keep.cls yX0_keep yX0_keep ∈ wAll := wIn 1299 (by decide +kernel) (by decide +kernel)
theorem mk_X0_keep : mk yX0_keep 0 := ⟨by decide +kernel, w_98⟩
theorem w_1298 : Cond.instanceMethod yX0_keep ∈ wAll := wIn 1298 (by decide +kernel) (by decide +kernel)
theorem w_1300 : Cond.code yX0_keep cX0_keep 1 (some .int) ∈ wAll := wIn 1300 (by decide +kernel) (by decide +kernel)
theorem dX10_image_7 : decode cX10_image 7 = .ok (.ireturn, 1) := by decide +kernel
theorem dX10_end_0 : decode cX10_end 0 = .ok (.iload_n 1, 1) := by decide +kernel
theorem dX10_end_1 : decode cX10_end 1 = .ok (.iconst 0, 1) := by decide +kernel
theorem dX10_end_2 : decode cX10_end 2 = .ok (.aload_n 0, 1) := by decide +kernel
theorem dX10_end_3 : decode cX10_end 3 = .ok (.getfield 12, 3) := by decide +kernel
theorem dX10_end_6 : decode cX10_end 6 = .ok (.getfield 79, 3) := by decide +kernel
theorem w_138 : Cond.fieldLink "QuarterWalks" 79 "QuarterWalks$Tape" "length" "I" ∈ wAll := wIn 138 (by decide +kernel) (by decide +kernel)
theorem fl_X10_79 : fl RX10 79 8 0 := ⟨RX7, TX7, 7, rfl, inA_X7, by decide, w_138⟩
theorem dX10_end_9 : decode cX10_end 9 = .ok (.invokestatic 87, 3) := by decide +kernel
theorem dX10_end_12 : decode cX10_end 12 = .ok (.ifCond .ne 5, 3) := by decide +kernel
theorem dX10_end_17 : decode cX10_end 17 = .ok (.aload_n 0, 1) := by decide +kernel
theorem dX10_end_18 : decode cX10_end 18 = .ok (.getfield 12, 3) := by decide +kernel
theorem dX10_end_21 : decode cX10_end 21 = .ok (.iload_n 1, 1) := by decide +kernel
theorem dX10_end_22 : decode cX10_end 22 = .ok (.putfield 79, 3) := by decide +kernel
theorem flw_X10_79 : flw RX10 79 8 0 (.int) := ⟨RX7, TX7, 7, tyX7, rfl, inA_X7, by decide, w_138, tyX7_ok, nmX7, by decide +kernel, Or.inl rfl⟩
theorem dX10_end_25 : decode cX10_end 25 = .ok (.iconst 1, 1) := by decide +kernel
theorem dX10_end_26 : decode cX10_end 26 = .ok (.ireturn, 1) := by decide +kernel
theorem dX10_end_15 : decode cX10_end 15 = .ok (.iconst 0, 1) := by decide +kernel
theorem dX10_end_16 : decode cX10_end 16 = .ok (.ireturn, 1) := by decide +kernel
theorem dX10_status_0 : decode cX10_status 0 = .ok (.iload_n 1, 1) := by decide +kernel
theorem dX10_status_1 : decode cX10_status 1 = .ok (.iconst 0, 1) := by decide +kernel
theorem dX10_status_2 : decode cX10_status 2 = .ok (.aload_n 0, 1) := by decide +kernel
theorem dX10_status_3 : decode cX10_status 3 = .ok (.getfield 60, 3) := by decide +kernel
theorem dX10_status_6 : decode cX10_status 6 = .ok (.arraylength, 1) := by decide +kernel
theorem dX10_status_7 : decode cX10_status 7 = .ok (.iconst 1, 1) := by decide +kernel
theorem dX10_status_8 : decode cX10_status 8 = .ok (.isub, 1) := by decide +kernel
theorem dX10_status_9 : decode cX10_status 9 = .ok (.invokestatic 87, 3) := by decide +kernel
theorem dX10_status_12 : decode cX10_status 12 = .ok (.ifCond .eq 12, 3) := by decide +kernel
theorem dX10_status_24 : decode cX10_status 24 = .ok (.iconst (-1), 1) := by decide +kernel
theorem dX10_status_25 : decode cX10_status 25 = .ok (.ireturn, 1) := by decide +kernel
theorem dX10_status_15 : decode cX10_status 15 = .ok (.aload_n 0, 1) := by decide +kernel
theorem dX10_status_16 : decode cX10_status 16 = .ok (.getfield 60, 3) := by decide +kernel
theorem dX10_status_19 : decode cX10_status 19 = .ok (.iload_n 1, 1) := by decide +kernel
theorem dX10_status_20 : decode cX10_status 20 = .ok (.iaload, 1) := by decide +kernel
theorem dX10_status_21 : decode cX10_status 21 = .ok (.goto 4, 3) := by decide +kernel
theorem dX10_most_0 : decode cX10_most 0 = .ok (.iload_n 1, 1) := by decide +kernel
theorem dX10_most_1 : decode cX10_most 1 = .ok (.iconst 0, 1) := by decide +kernel
theorem dX10_most_2 : decode cX10_most 2 = .ok (.iconst 4, 1) := by decide +kernel
theorem dX10_most_3 : decode cX10_most 3 = .ok (.invokestatic 87, 3) := by decide +kernel
theorem dX10_most_6 : decode cX10_most 6 = .ok (.ifCond .ne 5, 3) := by decide +kernel
theorem dX10_most_11 : decode cX10_most 11 = .ok (.iload_n 1, 1) := by decide +kernel
theorem dX10_most_12 : decode cX10_most 12 = .ok (.iconst 3, 1) := by decide +kernel
theorem dX10_most_13 : decode cX10_most 13 = .ok (.if_icmp .ne 8, 3) := by decide +kernel
theorem dX10_most_21 : decode cX10_most 21 = .ok (.aload_n 0, 1) := by decide +kernel
theorem dX10_most_22 : decode cX10_most 22 = .ok (.getfield 19, 3) := by decide +kernel
theorem dX10_most_25 : decode cX10_most 25 = .ok (.invokevirtual 370, 3) := by decide +kernel
theorem dX10_most_28 : decode cX10_most 28 = .ok (.ifCond .ne 5, 3) := by decide +kernel
theorem dX10_most_31 : decode cX10_most 31 = .ok (.iconst (-1), 1) := by decide +kernel
theorem dX10_most_32 : decode cX10_most 32 = .ok (.ireturn, 1) := by decide +kernel
theorem dX10_most_16 : decode cX10_most 16 = .ok (.aload_n 0, 1) := by decide +kernel
theorem dX10_most_17 : decode cX10_most 17 = .ok (.invokevirtual 367, 3) := by decide +kernel
theorem w_1317 : Cond.methodLink "QuarterWalks" 367 yX10_unlikeSets ∈ wAll := wIn 1317 (by decide +kernel) (by decide +kernel)
theorem w_32 : Cond.selects yX10_unlikeSets.cls yX10_unlikeSets yX10_unlikeSets ∈ wAll := wIn 32 (by decide +kernel) (by decide +kernel)
theorem mk_X10_unlikeSets : mk yX10_unlikeSets 0 := ⟨by decide +kernel, w_96⟩
theorem w_1319 : Cond.instanceMethod yX10_unlikeSets ∈ wAll := wIn 1319 (by decide +kernel) (by decide +kernel)
theorem w_1320 : Cond.code yX10_unlikeSets cX10_unlikeSets 3 (some .int) ∈ wAll := wIn 1320 (by decide +kernel) (by decide +kernel)
theorem dX10_most_20 : decode cX10_most 20 = .ok (.ireturn, 1) := by decide +kernel
theorem dX10_most_9 : decode cX10_most 9 = .ok (.iconst (-1), 1) := by decide +kernel
theorem dX10_most_10 : decode cX10_most 10 = .ok (.ireturn, 1) := by decide +kernel
theorem dX10_count_0 : decode cX10_count 0 = .ok (.iload_n 1, 1) := by decide +kernel
theorem dX10_count_1 : decode cX10_count 1 = .ok (.tableswitch 51 0 2 #[27, 35, 43], 27) := by decide +kernel
theorem sw_0_2 (p : Int32) : p = 0 ∨ p = 1 ∨ p = 2 ∨ (p.toInt < 0 ∨ 2 < p.toInt) := by
  have h : p.toInt = 0 ∨ p.toInt = 1 ∨ p.toInt = 2 ∨ (p.toInt < 0 ∨ 2 < p.toInt) := by omega
  rcases h with h | h | h | h
  · exact Or.inl (Int32.toInt_inj.mp (h.trans rfl))
  · exact Or.inr (Or.inl (Int32.toInt_inj.mp (h.trans rfl)))
  · exact Or.inr (Or.inr (Or.inl (Int32.toInt_inj.mp (h.trans rfl))))
  · exact Or.inr (Or.inr (Or.inr (h)))
theorem dX10_count_28 : decode cX10_count 28 = .ok (.aload_n 0, 1) := by decide +kernel
theorem dX10_count_29 : decode cX10_count 29 = .ok (.getfield 12, 3) := by decide +kernel
theorem dX10_count_32 : decode cX10_count 32 = .ok (.getfield 79, 3) := by decide +kernel
theorem dX10_count_35 : decode cX10_count 35 = .ok (.ireturn, 1) := by decide +kernel
theorem dX10_count_36 : decode cX10_count 36 = .ok (.aload_n 0, 1) := by decide +kernel
theorem dX10_count_37 : decode cX10_count 37 = .ok (.getfield 19, 3) := by decide +kernel
theorem dX10_count_40 : decode cX10_count 40 = .ok (.getfield 379, 3) := by decide +kernel
theorem w_187 : Cond.fieldLink "QuarterWalks" 379 "QuarterWalks$Book" "past" "I" ∈ wAll := wIn 187 (by decide +kernel) (by decide +kernel)
theorem fl_X10_379 : fl RX10 379 1 0 := ⟨RX0, TX0, 6, rfl, inA_X0, by decide, w_187⟩
theorem dX10_count_43 : decode cX10_count 43 = .ok (.ireturn, 1) := by decide +kernel
theorem dX10_count_44 : decode cX10_count 44 = .ok (.aload_n 0, 1) := by decide +kernel
theorem dX10_count_45 : decode cX10_count 45 = .ok (.getfield 19, 3) := by decide +kernel
theorem dX10_count_48 : decode cX10_count 48 = .ok (.invokevirtual 370, 3) := by decide +kernel
theorem dX10_count_51 : decode cX10_count 51 = .ok (.ireturn, 1) := by decide +kernel
theorem dX10_count_52 : decode cX10_count 52 = .ok (.iconst (-1), 1) := by decide +kernel
theorem dX10_count_53 : decode cX10_count 53 = .ok (.ireturn, 1) := by decide +kernel
end
section


def xw (G : Nat → Nat) (f : hM) (X : Nat → Nat) : Prop := f (X 0) = some (.inr (11, [.ref (X 1), .ref (X 2), .ref (X 3), .ref (X 4), .ref (X 5), .ref (X 6), .ref (X 7), .ref (X 8), .ref (X 9), .ref (X 10)])) ∧ f (X 1) = some (.inr (8, [.int 0, .ref (X 11), .ref (X 12), .int 0, .int 0, .int 0, .int 0])) ∧ f (X 2) = some (.inr (1, [.int 0, .ref (X 13), .ref (X 14), .ref (X 15), .int 0, .int 0])) ∧ f (X 8) = some (.inl (G 1, 4, .inl (fun _ => 0))) ∧ f (X 11) = some (.inl (G 1, 200, .inl (fun _ => 0))) ∧ f (X 12) = some (.inl (G 1, 8, .inl (fun _ => 0))) ∧ f (X 13) = some (.inr (6, [.ref (X 16), .int 0])) ∧ f (X 14) = some (.inr (6, [.ref (X 17), .int 0])) ∧ f (X 16) = some (.inl (G 4, 8, .inr (.inr (.inr (.inr (fun _ => none)))))) ∧ f (X 17) = some (.inl (G 4, 8, .inr (.inr (.inr (.inr (fun _ => none))))))
def mw (G : Nat → Nat) (f : hM) (M : Nat → Nat) : Prop := f (M 0) = some (.inr (12, [.int 0, .ref (M 1), .int 0, .int 0, .int 0, .ref (M 2), .ref (M 3), .ref (M 4), .ref (M 5), .ref (M 6), .int 0, .int 0, .ref (M 7), .ref (M 8), .int 0, .ref (M 9), .ref (M 10), .ref (M 11), .long 0, .ref (M 12), .ref (M 13), .ref (M 14), .ref (M 15), .ref (M 16), .ref (M 17), .ref (M 18), .ref (M 19), .int 0, .int 0, .ref (M 20), .ref (M 21), .int 0])) ∧ f (M 1) = some (.inl (G 0, 200, .inl (fun _ => 0))) ∧ f (M 2) = some (.inl (G 1, 10, .inl (fun _ => 0))) ∧ f (M 3) = some (.inl (G 1, 81, .inl (fun _ => 0))) ∧ f (M 4) = some (.inl (G 1, 81, .inl (fun _ => 0))) ∧ f (M 6) = some (.inl (G 1, 4, .inl (fun _ => 0)))
def wi (n a b : Int32) : Int32 := if n < a then 0 else if b < n then 0 else 1
theorem wi_none (n : Int32) : wi n 0 (-1) = 0 := by
  unfold wi
  by_cases h : n < 0
  · rw [if_pos h]
  · rw [if_neg h, if_pos]
    rw [Int32.lt_iff_toInt_lt] at h ⊢
    have e1 : (0 : Int32).toInt = 0 := rfl
    have e2 : (-1 : Int32).toInt = -1 := rfl
    omega
theorem wi_01 (n a b : Int32) : wi n a b = 0 ∨ wi n a b = 1 := by
  unfold wi
  split
  · exact Or.inl rfl
  · split
    · exact Or.inl rfl
    · exact Or.inr rfl
def wl (n a b : Int64) : Int32 := if lg_cmp n a < 0 then 0 else if 0 < lg_cmp n b then 0 else 1
theorem wl_none (n : Int64) : wl n 0 (-1) = 0 := by
  unfold wl
  by_cases h : lg_cmp n 0 < 0
  · rw [if_pos h]
  · rw [if_neg h, if_pos]
    rw [lg_cmp_lt] at h
    rw [lg_cmp_gt]
    rw [Int64.lt_iff_toInt_lt] at h ⊢
    have e1 : (0 : Int64).toInt = 0 := rfl
    have e2 : (-1 : Int64).toInt = -1 := rfl
    omega
theorem wl_01 (n a b : Int64) : wl n a b = 0 ∨ wl n a b = 1 := by
  unfold wl
  split
  · exact Or.inl rfl
  · split
    · exact Or.inl rfl
    · exact Or.inr rfl
set_option maxRecDepth 100000 in
set_option maxHeartbeats 4000000 in
theorem c_X10_within (l : Launch) (D : va_G) (G : Nat → Nat) (b0 : Nat) (f : hM) (n a b : Int32) : mI l yX10_within cX10_within 3 (.boolean) { frames := 0, cells := 0, slots := 0, locals := 0 } D G b0 f [.int n, .int a, .int b] (fun r f1 => wi n a b = r ∧ f = f1) := by
  refine met_of (own := RX10) (by decide) rfl (Nat.le_of_ble_eq_true rfl) ?_
  intro p e s m below meth c ls C hr hini hl h
  have hl : lv_has ls 3 [(0, .int n), (1, .int a), (2, .int b)] := hl
  obtain ⟨hx, hb, hml, hown, hts, hE0, hlk⟩ := id C
  refine lv_iload_n hx hb dX10_within_0 rfl (lv_at hl 0 rfl) ?_
  refine lv_iload_n hx hb dX10_within_1 rfl (lv_at hl 1 rfl) ?_
  refine lv_icmp_lt (tgt := 14) hx hb dX10_within_2 (by decide) (fun c_1 => ?_) (fun c_1 => ?_)
  · refine lv_iconst (v := 0) hx hb dX10_within_14 (by decide) ?_
    exact q_zret C h hr (Or.inl rfl) (⟨by simp [wi, c_1], rfl⟩) (Nat.le_of_ble_eq_true rfl) (Nat.le_of_ble_eq_true rfl) dX10_within_15
  · refine lv_iload_n hx hb dX10_within_5 rfl (lv_at hl 0 rfl) ?_
    refine lv_iload_n hx hb dX10_within_6 rfl (lv_at hl 2 rfl) ?_
    refine lv_icmp_gt (tgt := 14) hx hb dX10_within_7 (by decide) (fun c_2 => ?_) (fun c_2 => ?_)
    · refine lv_iconst (v := 0) hx hb dX10_within_14 (by decide) ?_
      exact q_zret C h hr (Or.inl rfl) (⟨by simp [wi, c_1, c_2], rfl⟩) (Nat.le_of_ble_eq_true rfl) (Nat.le_of_ble_eq_true rfl) dX10_within_15
    · refine lv_iconst (v := 1) hx hb dX10_within_10 (by decide) ?_
      refine lv_goto (tgt := 15) hx hb dX10_within_11 (by decide) ?_
      exact q_zret C h hr (Or.inr rfl) (⟨by simp [wi, c_1, c_2], rfl⟩) (Nat.le_of_ble_eq_true rfl) (Nat.le_of_ble_eq_true rfl) dX10_within_15
set_option maxRecDepth 100000 in
set_option maxHeartbeats 4000000 in
theorem c_X11_isIn (l : Launch) (D : va_G) (G : Nat → Nat) (b0 : Nat) (f : hM) (n a b : Int64) : mI l yX11_isIn cX11_isIn 6 (.boolean) { frames := 0, cells := 0, slots := 0, locals := 0 } D G b0 f [.long n, .long a, .long b] (fun r f1 => wl n a b = r ∧ f = f1) := by
  refine met_of (own := RX11) (by decide) rfl (Nat.le_of_ble_eq_true rfl) ?_
  intro p e s m below meth c ls C hr hini hl h
  have hl : lv_has ls 6 [(0, .long n), (2, .long a), (4, .long b)] := hl
  obtain ⟨hx, hb, hml, hown, hts, hE0, hlk⟩ := id C
  refine lv_lload_n hx hb dX11_isIn_0 rfl (lv_at hl 0 rfl) ?_
  refine lv_lload_n hx hb dX11_isIn_1 rfl (lv_at hl 1 rfl) ?_
  refine W.lcmp hx hb dX11_isIn_2 ?_
  refine lv_if_lt (tgt := 17) hx hb dX11_isIn_3 (by decide) (fun c_3 => ?_) (fun c_3 => ?_)
  · refine lv_iconst (v := 0) hx hb dX11_isIn_17 (by decide) ?_
    exact q_zret C h hr (Or.inl rfl) (⟨by simp [wl, c_3], rfl⟩) (Nat.le_of_ble_eq_true rfl) (Nat.le_of_ble_eq_true rfl) dX11_isIn_18
  · refine lv_lload_n hx hb dX11_isIn_6 rfl (lv_at hl 0 rfl) ?_
    refine lv_lload hx hb dX11_isIn_7 (lv_at hl 2 rfl) ?_
    refine W.lcmp hx hb dX11_isIn_9 ?_
    refine lv_if_gt (tgt := 17) hx hb dX11_isIn_10 (by decide) (fun c_4 => ?_) (fun c_4 => ?_)
    · refine lv_iconst (v := 0) hx hb dX11_isIn_17 (by decide) ?_
      exact q_zret C h hr (Or.inl rfl) (⟨by simp [wl, c_3, c_4], rfl⟩) (Nat.le_of_ble_eq_true rfl) (Nat.le_of_ble_eq_true rfl) dX11_isIn_18
    · refine lv_iconst (v := 1) hx hb dX11_isIn_13 (by decide) ?_
      refine lv_goto (tgt := 18) hx hb dX11_isIn_14 (by decide) ?_
      exact q_zret C h hr (Or.inr rfl) (⟨by simp [wl, c_3, c_4], rfl⟩) (Nat.le_of_ble_eq_true rfl) (Nat.le_of_ble_eq_true rfl) dX11_isIn_18
set_option maxRecDepth 100000 in
set_option maxHeartbeats 4000000 in
theorem c_X0_find (l : Launch) (D : va_G) (G : Nat → Nat) (b0 : Nat) (f : hM) (X : Nat → Nat) (hX : xw G f X) (n : Int32) : mQ l yX0_find cX0_find 2 (.object "QuarterWalks$StepSet") { frames := 1, cells := 0, slots := 0, locals := 22 } D G b0 f [.ref (X 2), .int n] (fun r f1 => none = r ∧ f = f1) := by
  refine met_of (own := RX0) (by decide) rfl (Nat.le_of_ble_eq_true rfl) ?_
  intro p e s m below meth c ls C hr hini hl h
  have hl : lv_has ls 2 [(0, .ref (X 2)), (1, .int n)] := hl
  obtain ⟨hx, hb, hml, hown, hts, hE0, hlk⟩ := id C
  obtain ⟨kx0, kx1, kx2, kx3, kx4, kx5, kx6, kx7, kx8, kx9⟩ := hX
  refine lv_iload_n hx hb dX0_find_0 rfl (lv_at hl 1 rfl) ?_
  refine lv_iconst (v := 0) hx hb dX0_find_1 (by decide) ?_
  refine lv_aload_n hx hb dX0_find_2 rfl (lv_at hl 0 rfl) ?_
  refine q_get C h kx2 fl_X0_12 (v := .ref (X 13)) rfl dX0_find_3 ?_
  refine q_get C h kx6 fl_X0_25 (v := .int 0) rfl dX0_find_6 ?_
  refine lv_iconst (v := 1) hx hb dX0_find_9 (by decide) ?_
  refine lv_isub hx hb dX0_find_10 ?_
  refine lv_topi (fun x_ e_ => ?_)
  obtain rfl : (-1) = x_ := by rw [e_]; decide
  refine k_i (r_SN C h hl (host := "QuarterWalks") (As := [.int n, .int 0, .int (-1)]) (rest := []) (c_X10_within l D G b0 f  n 0 (-1)) mk_X10_within (by decide) w_426 w_427 ⟨Nat.le_of_ble_eq_true rfl, Nat.le_of_ble_eq_true rfl⟩ rfl (Nat.le_of_ble_eq_true rfl) ⟨Nat.le_of_ble_eq_true rfl, Nat.le_of_ble_eq_true rfl⟩ rfl dX0_find_11) h (fun r_5 f_6 H locs p_7 h => ?_)
  obtain ⟨e_, rfl⟩ := p_7
  rw [wi_none] at e_
  subst e_
  refine lv_if_eq (tgt := 29) hx hb dX0_find_14 (by decide) (fun c_8 => ?_) (fun c_8 => ?_)
  · refine lv_null hx hb dX0_find_29 ?_
    exact q_aret C h hr (Or.inl ⟨_, rfl⟩) (v := none) (⟨rfl, rfl⟩) (Nat.le_of_ble_eq_true rfl) (Nat.le_of_ble_eq_true rfl) rfl dX0_find_30
  · exact absurd c_8 (by decide)
set_option maxRecDepth 100000 in
set_option maxHeartbeats 4000000 in
theorem c_X11_isSet (l : Launch) (D : va_G) (G : Nat → Nat) (b0 : Nat) (f : hM) (M : Nat → Nat) (hM : mw G f M) (n : Int32) : mI l yX11_isSet cX11_isSet 2 (.boolean) { frames := 1, cells := 0, slots := 0, locals := 25 } D G b0 f [.ref (M 0), .int n] (fun r f1 => (0 : Int32) = r ∧ f = f1) := by
  refine met_of (own := RX11) (by decide) rfl (Nat.le_of_ble_eq_true rfl) ?_
  intro p e s m below meth c ls C hr hini hl h
  have hl : lv_has ls 2 [(0, .ref (M 0)), (1, .int n)] := hl
  obtain ⟨hx, hb, hml, hown, hts, hE0, hlk⟩ := id C
  obtain ⟨km0, km1, km2, km3, km4, km5⟩ := hM
  refine lv_iload_n hx hb dX11_isSet_0 rfl (lv_at hl 1 rfl) ?_
  refine lv_i2l (v := Int32.toInt64 n) hx hb dX11_isSet_1 rfl ?_
  refine lv_lconst (v := 0) hx hb dX11_isSet_2 (by decide) ?_
  refine lv_aload_n hx hb dX11_isSet_3 rfl (lv_at hl 0 rfl) ?_
  refine q_get C h km0 fl_X11_17 (v := .ref (M 3)) rfl dX11_isSet_4 ?_
  refine lv_bipush (v := 80) hx hb dX11_isSet_7 (by decide) ?_
  refine q_iald C h km3 (by unfold vp_in; decide) dX11_isSet_9 ?_
  refine lv_topi (fun x_ e_ => ?_)
  obtain rfl : 0 = x_ := e_.symm
  refine lv_iconst (v := 1) hx hb dX11_isSet_10 (by decide) ?_
  refine lv_isub hx hb dX11_isSet_11 ?_
  refine lv_topi (fun x_ e_ => ?_)
  obtain rfl : (-1) = x_ := by rw [e_]; decide
  refine lv_i2l (v := -1) hx hb dX11_isSet_12 (by decide) ?_
  refine k_i (r_S C h hl (As := [.long (Int32.toInt64 n), .long 0, .long (-1)]) (rest := []) (c_X11_isIn l D G b0 f  (Int32.toInt64 n) 0 (-1)) mk_X11_isIn w_1628 w_1629 w_1630 ⟨Nat.le_of_ble_eq_true rfl, Nat.le_of_ble_eq_true rfl⟩ rfl (Nat.le_of_ble_eq_true rfl) ⟨Nat.le_of_ble_eq_true rfl, Nat.le_of_ble_eq_true rfl⟩ rfl dX11_isSet_13) h (fun r_9 f_10 H locs p_11 h => ?_)
  obtain ⟨e_, rfl⟩ := p_11
  rw [wl_none] at e_
  subst e_
  exact q_zret C h hr (Or.inl rfl) (⟨rfl, rfl⟩) (Nat.le_of_ble_eq_true rfl) (Nat.le_of_ble_eq_true rfl) dX11_isSet_16
set_option maxRecDepth 100000 in
set_option maxHeartbeats 4000000 in
theorem c_X10_refuse (l : Launch) (D : va_G) (G : Nat → Nat) (b0 : Nat) (f : hM) (bm : Nat) (X : Nat → Nat) (hX : xw G f X) (hB : ∀ i, i < 20 → X i < bm) : mI l yX10_refuse cX10_refuse 2 (.int) { frames := 0, cells := 0, slots := 0, locals := 0 } D G b0 f [.ref (X 0), .int 0] (fun r f1 => (-1 : Int32) = r ∧ ∀ q, bm ≤ q → f1 q = f q) := by
  refine met_of (own := RX10) (by decide) rfl (Nat.le_of_ble_eq_true rfl) ?_
  intro p e s m below meth c ls C hr hini hl h
  have hl : lv_has ls 2 [(0, .ref (X 0)), (1, .int 0)] := hl
  obtain ⟨hx, hb, hml, hown, hts, hE0, hlk⟩ := id C
  obtain ⟨kx0, kx1, kx2, kx3, kx4, kx5, kx6, kx7, kx8, kx9⟩ := hX
  refine lv_aload_n hx hb dX10_refuse_0 rfl (lv_at hl 0 rfl) ?_
  refine q_get C h kx0 fl_X10_60 (v := .ref (X 8)) rfl dX10_refuse_1 ?_
  refine lv_iload_n hx hb dX10_refuse_4 rfl (lv_at hl 1 rfl) ?_
  refine lv_dup2_11 hx hb dX10_refuse_5 rfl rfl ?_
  refine q_iald C h kx3 (by unfold vp_in; decide) dX10_refuse_6 ?_
  refine lv_topi (fun x_ e_ => ?_)
  obtain rfl : 0 = x_ := e_.symm
  refine lv_iconst (v := 1) hx hb dX10_refuse_7 (by decide) ?_
  refine lv_iadd hx hb dX10_refuse_8 ?_
  refine lv_topi (fun x_ e_ => ?_)
  obtain rfl : 1 = x_ := by rw [e_]; decide
  refine q_iast C h kx3 (by unfold vp_in; decide) dX10_refuse_9 (fun H locs h => ?_)
  generalize ef_13 : hu f (X 8) (.inl (G 1, 4, .inl (upd (fun _ => 0) (Int32.toNatClampNeg 0) 1))) = f_13 at h
  have k_14 : f_13 (X 0) = some (.inr (11, [.ref (X 1), .ref (X 2), .ref (X 3), .ref (X 4), .ref (X 5), .ref (X 6), .ref (X 7), .ref (X 8), .ref (X 9), .ref (X 10)])) := by rw [← ef_13]; exact hu_at kx0 (hne (1, 4) (4, 11) kx3 kx0 rfl rfl (by decide))
  have k_15 : f_13 (X 1) = some (.inr (8, [.int 0, .ref (X 11), .ref (X 12), .int 0, .int 0, .int 0, .int 0])) := by rw [← ef_13]; exact hu_at kx1 (hne (1, 4) (4, 8) kx3 kx1 rfl rfl (by decide))
  have k_16 : f_13 (X 2) = some (.inr (1, [.int 0, .ref (X 13), .ref (X 14), .ref (X 15), .int 0, .int 0])) := by rw [← ef_13]; exact hu_at kx2 (hne (1, 4) (4, 1) kx3 kx2 rfl rfl (by decide))
  have k_17 : f_13 (X 11) = some (.inl (G 1, 200, .inl (fun _ => 0))) := by rw [← ef_13]; exact hu_at kx4 (hne (1, 4) (1, 200) kx3 kx4 rfl rfl (by decide))
  have k_18 : f_13 (X 12) = some (.inl (G 1, 8, .inl (fun _ => 0))) := by rw [← ef_13]; exact hu_at kx5 (hne (1, 4) (1, 8) kx3 kx5 rfl rfl (by decide))
  have k_19 : f_13 (X 13) = some (.inr (6, [.ref (X 16), .int 0])) := by rw [← ef_13]; exact hu_at kx6 (hne (1, 4) (4, 6) kx3 kx6 rfl rfl (by decide))
  have k_20 : f_13 (X 14) = some (.inr (6, [.ref (X 17), .int 0])) := by rw [← ef_13]; exact hu_at kx7 (hne (1, 4) (4, 6) kx3 kx7 rfl rfl (by decide))
  have k_21 : f_13 (X 16) = some (.inl (G 4, 8, .inr (.inr (.inr (.inr (fun _ => none)))))) := by rw [← ef_13]; exact hu_at kx8 (hne (1, 4) (3, 8) kx3 kx8 rfl rfl (by decide))
  have k_22 : f_13 (X 17) = some (.inl (G 4, 8, .inr (.inr (.inr (.inr (fun _ => none)))))) := by rw [← ef_13]; exact hu_at kx9 (hne (1, 4) (3, 8) kx3 kx9 rfl rfl (by decide))
  have k_23 : f_13 (X 8) = some (.inl (G 1, 4, .inl (upd (fun _ => 0) (Int32.toNatClampNeg 0) 1))) := by rw [← ef_13]; exact hu_self _ _ _
  refine lv_iconst (v := -1) hx hb dX10_refuse_10 (by decide) ?_
  exact q_iret C h hr (⟨rfl, fun q hq => ((congrFun ef_13.symm q).trans (hu_ne (Nat.ne_of_gt (Nat.lt_of_lt_of_le (hB 8 (by decide)) hq))))⟩) (Nat.le_of_ble_eq_true rfl) (Nat.le_of_ble_eq_true rfl) dX10_refuse_11
set_option maxRecDepth 100000 in
set_option maxHeartbeats 4000000 in
theorem c_X11_refuse (l : Launch) (D : va_G) (G : Nat → Nat) (b0 : Nat) (f : hM) (M : Nat → Nat) (hM : mw G f M) : mI l yX11_refuse cX11_refuse 2 (.int) { frames := 0, cells := 0, slots := 0, locals := 0 } D G b0 f [.ref (M 0), .int 0] (fun r f1 => (-1 : Int32) = r) := by
  refine met_of (own := RX11) (by decide) rfl (Nat.le_of_ble_eq_true rfl) ?_
  intro p e s m below meth c ls C hr hini hl h
  have hl : lv_has ls 2 [(0, .ref (M 0)), (1, .int 0)] := hl
  obtain ⟨hx, hb, hml, hown, hts, hE0, hlk⟩ := id C
  obtain ⟨km0, km1, km2, km3, km4, km5⟩ := hM
  refine lv_aload_n hx hb dX11_refuse_0 rfl (lv_at hl 0 rfl) ?_
  refine q_get C h km0 fl_X11_26 (v := .ref (M 6)) rfl dX11_refuse_1 ?_
  refine lv_iload_n hx hb dX11_refuse_4 rfl (lv_at hl 1 rfl) ?_
  refine lv_dup2_11 hx hb dX11_refuse_5 rfl rfl ?_
  refine q_iald C h km5 (by unfold vp_in; decide) dX11_refuse_6 ?_
  refine lv_topi (fun x_ e_ => ?_)
  obtain rfl : 0 = x_ := e_.symm
  refine lv_iconst (v := 1) hx hb dX11_refuse_7 (by decide) ?_
  refine lv_iadd hx hb dX11_refuse_8 ?_
  refine lv_topi (fun x_ e_ => ?_)
  obtain rfl : 1 = x_ := by rw [e_]; decide
  refine q_iast C h km5 (by unfold vp_in; decide) dX11_refuse_9 (fun H locs h => ?_)
  generalize ef_25 : hu f (M 6) (.inl (G 1, 4, .inl (upd (fun _ => 0) (Int32.toNatClampNeg 0) 1))) = f_25 at h
  have k_26 : f_25 (M 0) = some (.inr (12, [.int 0, .ref (M 1), .int 0, .int 0, .int 0, .ref (M 2), .ref (M 3), .ref (M 4), .ref (M 5), .ref (M 6), .int 0, .int 0, .ref (M 7), .ref (M 8), .int 0, .ref (M 9), .ref (M 10), .ref (M 11), .long 0, .ref (M 12), .ref (M 13), .ref (M 14), .ref (M 15), .ref (M 16), .ref (M 17), .ref (M 18), .ref (M 19), .int 0, .int 0, .ref (M 20), .ref (M 21), .int 0])) := by rw [← ef_25]; exact hu_at km0 (hne (1, 4) (4, 12) km5 km0 rfl rfl (by decide))
  have k_27 : f_25 (M 1) = some (.inl (G 0, 200, .inl (fun _ => 0))) := by rw [← ef_25]; exact hu_at km1 (hne (1, 4) (1, 200) km5 km1 rfl rfl (by decide))
  have k_28 : f_25 (M 2) = some (.inl (G 1, 10, .inl (fun _ => 0))) := by rw [← ef_25]; exact hu_at km2 (hne (1, 4) (1, 10) km5 km2 rfl rfl (by decide))
  have k_29 : f_25 (M 3) = some (.inl (G 1, 81, .inl (fun _ => 0))) := by rw [← ef_25]; exact hu_at km3 (hne (1, 4) (1, 81) km5 km3 rfl rfl (by decide))
  have k_30 : f_25 (M 4) = some (.inl (G 1, 81, .inl (fun _ => 0))) := by rw [← ef_25]; exact hu_at km4 (hne (1, 4) (1, 81) km5 km4 rfl rfl (by decide))
  have k_31 : f_25 (M 6) = some (.inl (G 1, 4, .inl (upd (fun _ => 0) (Int32.toNatClampNeg 0) 1))) := by rw [← ef_25]; exact hu_self _ _ _
  refine lv_iconst (v := -1) hx hb dX11_refuse_10 (by decide) ?_
  exact q_iret C h hr (rfl) (Nat.le_of_ble_eq_true rfl) (Nat.le_of_ble_eq_true rfl) dX11_refuse_11
set_option maxRecDepth 100000 in
set_option maxHeartbeats 4000000 in
theorem c_X10_readies (l : Launch) (D : va_G) (G : Nat → Nat) (b0 : Nat) (f : hM) (bm : Nat) (X : Nat → Nat) (hX : xw G f X) (hB : ∀ i, i < 20 → X i < bm) (p0 : Int32) (p1 : Int32) (p2 : Int32) (p3 : Int32) (p4 : Int32) : mI l yX10_readies cX10_readies 7 (.boolean) { frames := 2, cells := 0, slots := 0, locals := 43 } D G b0 f [.ref (X 0), .int p0, .int p1, .int p2, .int p3, .int p4] (fun r f1 => (0 : Int32) = r ∧ ∀ q, bm ≤ q → f1 q = f q) := by
  refine met_of (own := RX10) (by decide) rfl (Nat.le_of_ble_eq_true rfl) ?_
  intro p e s m below meth c ls C hr hini hl h
  have hl : lv_has ls 7 [(0, .ref (X 0)), (1, .int p0), (2, .int p1), (3, .int p2), (4, .int p3), (5, .int p4)] := hl
  obtain ⟨hx, hb, hml, hown, hts, hE0, hlk⟩ := id C
  obtain ⟨kx0, kx1, kx2, kx3, kx4, kx5, kx6, kx7, kx8, kx9⟩ := hX
  refine lv_aload_n hx hb dX10_readies_0 rfl (lv_at hl 0 rfl) ?_
  refine q_get C h kx0 fl_X10_19 (v := .ref (X 2)) rfl dX10_readies_1 ?_
  refine lv_iload_n hx hb dX10_readies_4 rfl (lv_at hl 1 rfl) ?_
  refine k_q (r_V C h hl (As := [.int p0]) (rest := []) (c_X0_find l D G b0 f X ⟨kx0, kx1, kx2, kx3, kx4, kx5, kx6, kx7, kx8, kx9⟩ p0) kx2 (Cn := RX0) (T := TX0) (N := 6) rfl rfl mk_X0_find w_594 w_595 w_596 w_597 ⟨Nat.le_of_ble_eq_true rfl, Nat.le_of_ble_eq_true rfl⟩ rfl (Nat.le_of_ble_eq_true rfl) ⟨Nat.le_of_ble_eq_true rfl, Nat.le_of_ble_eq_true rfl⟩ rfl dX10_readies_5) h (fun r_32 f_33 H locs p_34 h => ?_)
  obtain ⟨rfl, rfl⟩ := p_34
  refine lv_astoreN (lv' := [(6, .null), (0, .ref (X 0)), (1, .int p0), (2, .int p1), (3, .int p2), (4, .int p3), (5, .int p4)]) hx hb dX10_readies_8 hl (by decide) rfl (fun ls hl => ?_)
  refine lv_aloadN hx hb dX10_readies_10 (lv_at hl 0 rfl) ?_
  refine lv_ifnullN (tgt := 33) hx hb dX10_readies_12 (by decide) ?_
  refine lv_iconst (v := 0) hx hb dX10_readies_33 (by decide) ?_
  exact q_zret C h hr (Or.inl rfl) (⟨rfl, fun q hq => rfl⟩) (Nat.le_of_ble_eq_true rfl) (Nat.le_of_ble_eq_true rfl) dX10_readies_34
end
section

set_option maxRecDepth 100000 in
set_option maxHeartbeats 4000000 in
theorem c_X10_drop (l : Launch) (D : va_G) (G : Nat → Nat) (b0 : Nat) (f : hM) (bm : Nat) (X : Nat → Nat) (hX : xw G f X) (hB : ∀ i, i < 20 → X i < bm) (p0 : Int32) : mI l yX10_drop cX10_drop 2 (.int) { frames := 2, cells := 0, slots := 0, locals := 43 } D G b0 f [.ref (X 0), .int p0] (fun r f1 => (-1 : Int32) = r ∧ ∀ q, bm ≤ q → f1 q = f q) := by
  refine met_of (own := RX10) (by decide) rfl (Nat.le_of_ble_eq_true rfl) ?_
  intro p e s m below meth c ls C hr hini hl h
  have hl : lv_has ls 2 [(0, .ref (X 0)), (1, .int p0)] := hl
  obtain ⟨hx, hb, hml, hown, hts, hE0, hlk⟩ := id C
  obtain ⟨kx0, kx1, kx2, kx3, kx4, kx5, kx6, kx7, kx8, kx9⟩ := hX
  refine lv_aload_n hx hb dX10_drop_0 rfl (lv_at hl 0 rfl) ?_
  refine q_get C h kx0 fl_X10_19 (v := .ref (X 2)) rfl dX10_drop_1 ?_
  refine lv_iload_n hx hb dX10_drop_4 rfl (lv_at hl 1 rfl) ?_
  refine k_q (r_V C h hl (As := [.int p0]) (rest := []) (c_X0_find l D G b0 f X ⟨kx0, kx1, kx2, kx3, kx4, kx5, kx6, kx7, kx8, kx9⟩ p0) kx2 (Cn := RX0) (T := TX0) (N := 6) rfl rfl mk_X0_find w_594 w_595 w_596 w_597 ⟨Nat.le_of_ble_eq_true rfl, Nat.le_of_ble_eq_true rfl⟩ rfl (Nat.le_of_ble_eq_true rfl) ⟨Nat.le_of_ble_eq_true rfl, Nat.le_of_ble_eq_true rfl⟩ rfl dX10_drop_5) h (fun r_35 f_36 H locs p_37 h => ?_)
  obtain ⟨rfl, rfl⟩ := p_37
  refine lv_ifnonnullN hx hb dX10_drop_8 ?_
  refine lv_aload_n hx hb dX10_drop_11 rfl (lv_at hl 0 rfl) ?_
  refine lv_iconst (v := 0) hx hb dX10_drop_12 (by decide) ?_
  refine k_i (r_V C h hl (As := [.int 0]) (rest := []) (c_X10_refuse l D G b0 f bm X ⟨kx0, kx1, kx2, kx3, kx4, kx5, kx6, kx7, kx8, kx9⟩ hB ) kx0 (Cn := RX10) (T := TX10) (N := 10) rfl rfl mk_X10_refuse w_519 w_521 w_8 w_522 ⟨Nat.le_of_ble_eq_true rfl, Nat.le_of_ble_eq_true rfl⟩ rfl (Nat.le_of_ble_eq_true rfl) ⟨Nat.le_of_ble_eq_true rfl, Nat.le_of_ble_eq_true rfl⟩ rfl dX10_drop_13) h (fun r_38 f_39 H locs p_40 h => ?_)
  obtain ⟨rfl, p_40⟩ := p_40
  exact q_iret C h hr (⟨rfl, fun q hq => (p_40 q hq)⟩) (Nat.le_of_ble_eq_true rfl) (Nat.le_of_ble_eq_true rfl) dX10_drop_16
set_option maxRecDepth 100000 in
set_option maxHeartbeats 4000000 in
theorem c_X10_mirror (l : Launch) (D : va_G) (G : Nat → Nat) (b0 : Nat) (f : hM) (bm : Nat) (X : Nat → Nat) (hX : xw G f X) (hB : ∀ i, i < 20 → X i < bm) (p0 : Int32) : mI l yX10_mirror cX10_mirror 3 (.int) { frames := 2, cells := 0, slots := 0, locals := 43 } D G b0 f [.ref (X 0), .int p0] (fun r f1 => (-1 : Int32) = r ∧ ∀ q, bm ≤ q → f1 q = f q) := by
  refine met_of (own := RX10) (by decide) rfl (Nat.le_of_ble_eq_true rfl) ?_
  intro p e s m below meth c ls C hr hini hl h
  have hl : lv_has ls 3 [(0, .ref (X 0)), (1, .int p0)] := hl
  obtain ⟨hx, hb, hml, hown, hts, hE0, hlk⟩ := id C
  obtain ⟨kx0, kx1, kx2, kx3, kx4, kx5, kx6, kx7, kx8, kx9⟩ := hX
  refine lv_aload_n hx hb dX10_mirror_0 rfl (lv_at hl 0 rfl) ?_
  refine q_get C h kx0 fl_X10_19 (v := .ref (X 2)) rfl dX10_mirror_1 ?_
  refine lv_iload_n hx hb dX10_mirror_4 rfl (lv_at hl 1 rfl) ?_
  refine k_q (r_V C h hl (As := [.int p0]) (rest := []) (c_X0_find l D G b0 f X ⟨kx0, kx1, kx2, kx3, kx4, kx5, kx6, kx7, kx8, kx9⟩ p0) kx2 (Cn := RX0) (T := TX0) (N := 6) rfl rfl mk_X0_find w_594 w_595 w_596 w_597 ⟨Nat.le_of_ble_eq_true rfl, Nat.le_of_ble_eq_true rfl⟩ rfl (Nat.le_of_ble_eq_true rfl) ⟨Nat.le_of_ble_eq_true rfl, Nat.le_of_ble_eq_true rfl⟩ rfl dX10_mirror_5) h (fun r_41 f_42 H locs p_43 h => ?_)
  obtain ⟨rfl, rfl⟩ := p_43
  refine lv_astore_nN (lv' := [(2, .null), (0, .ref (X 0)), (1, .int p0)]) hx hb dX10_mirror_8 rfl hl (by decide) rfl (fun ls hl => ?_)
  refine lv_aload_nN hx hb dX10_mirror_9 rfl (lv_at hl 0 rfl) ?_
  refine lv_ifnonnullN hx hb dX10_mirror_10 ?_
  refine lv_aload_n hx hb dX10_mirror_13 rfl (lv_at hl 1 rfl) ?_
  refine lv_iconst (v := 0) hx hb dX10_mirror_14 (by decide) ?_
  refine k_i (r_V C h hl (As := [.int 0]) (rest := []) (c_X10_refuse l D G b0 f bm X ⟨kx0, kx1, kx2, kx3, kx4, kx5, kx6, kx7, kx8, kx9⟩ hB ) kx0 (Cn := RX10) (T := TX10) (N := 10) rfl rfl mk_X10_refuse w_519 w_521 w_8 w_522 ⟨Nat.le_of_ble_eq_true rfl, Nat.le_of_ble_eq_true rfl⟩ rfl (Nat.le_of_ble_eq_true rfl) ⟨Nat.le_of_ble_eq_true rfl, Nat.le_of_ble_eq_true rfl⟩ rfl dX10_mirror_15) h (fun r_44 f_45 H locs p_46 h => ?_)
  obtain ⟨rfl, p_46⟩ := p_46
  refine lv_goto (tgt := 37) hx hb dX10_mirror_18 (by decide) ?_
  exact q_iret C h hr (⟨rfl, fun q hq => (p_46 q hq)⟩) (Nat.le_of_ble_eq_true rfl) (Nat.le_of_ble_eq_true rfl) dX10_mirror_37
set_option maxRecDepth 100000 in
set_option maxHeartbeats 4000000 in
theorem c_X10_turn (l : Launch) (D : va_G) (G : Nat → Nat) (b0 : Nat) (f : hM) (bm : Nat) (X : Nat → Nat) (hX : xw G f X) (hB : ∀ i, i < 20 → X i < bm) (p0 : Int32) : mI l yX10_turn cX10_turn 3 (.int) { frames := 2, cells := 0, slots := 0, locals := 43 } D G b0 f [.ref (X 0), .int p0] (fun r f1 => (-1 : Int32) = r ∧ ∀ q, bm ≤ q → f1 q = f q) := by
  refine met_of (own := RX10) (by decide) rfl (Nat.le_of_ble_eq_true rfl) ?_
  intro p e s m below meth c ls C hr hini hl h
  have hl : lv_has ls 3 [(0, .ref (X 0)), (1, .int p0)] := hl
  obtain ⟨hx, hb, hml, hown, hts, hE0, hlk⟩ := id C
  obtain ⟨kx0, kx1, kx2, kx3, kx4, kx5, kx6, kx7, kx8, kx9⟩ := hX
  refine lv_aload_n hx hb dX10_turn_0 rfl (lv_at hl 0 rfl) ?_
  refine q_get C h kx0 fl_X10_19 (v := .ref (X 2)) rfl dX10_turn_1 ?_
  refine lv_iload_n hx hb dX10_turn_4 rfl (lv_at hl 1 rfl) ?_
  refine k_q (r_V C h hl (As := [.int p0]) (rest := []) (c_X0_find l D G b0 f X ⟨kx0, kx1, kx2, kx3, kx4, kx5, kx6, kx7, kx8, kx9⟩ p0) kx2 (Cn := RX0) (T := TX0) (N := 6) rfl rfl mk_X0_find w_594 w_595 w_596 w_597 ⟨Nat.le_of_ble_eq_true rfl, Nat.le_of_ble_eq_true rfl⟩ rfl (Nat.le_of_ble_eq_true rfl) ⟨Nat.le_of_ble_eq_true rfl, Nat.le_of_ble_eq_true rfl⟩ rfl dX10_turn_5) h (fun r_47 f_48 H locs p_49 h => ?_)
  obtain ⟨rfl, rfl⟩ := p_49
  refine lv_astore_nN (lv' := [(2, .null), (0, .ref (X 0)), (1, .int p0)]) hx hb dX10_turn_8 rfl hl (by decide) rfl (fun ls hl => ?_)
  refine lv_aload_nN hx hb dX10_turn_9 rfl (lv_at hl 0 rfl) ?_
  refine lv_ifnonnullN hx hb dX10_turn_10 ?_
  refine lv_aload_n hx hb dX10_turn_13 rfl (lv_at hl 1 rfl) ?_
  refine lv_iconst (v := 0) hx hb dX10_turn_14 (by decide) ?_
  refine k_i (r_V C h hl (As := [.int 0]) (rest := []) (c_X10_refuse l D G b0 f bm X ⟨kx0, kx1, kx2, kx3, kx4, kx5, kx6, kx7, kx8, kx9⟩ hB ) kx0 (Cn := RX10) (T := TX10) (N := 10) rfl rfl mk_X10_refuse w_519 w_521 w_8 w_522 ⟨Nat.le_of_ble_eq_true rfl, Nat.le_of_ble_eq_true rfl⟩ rfl (Nat.le_of_ble_eq_true rfl) ⟨Nat.le_of_ble_eq_true rfl, Nat.le_of_ble_eq_true rfl⟩ rfl dX10_turn_15) h (fun r_50 f_51 H locs p_52 h => ?_)
  obtain ⟨rfl, p_52⟩ := p_52
  refine lv_goto (tgt := 37) hx hb dX10_turn_18 (by decide) ?_
  exact q_iret C h hr (⟨rfl, fun q hq => (p_52 q hq)⟩) (Nat.le_of_ble_eq_true rfl) (Nat.le_of_ble_eq_true rfl) dX10_turn_37
set_option maxRecDepth 100000 in
set_option maxHeartbeats 4000000 in
theorem c_X10_join (l : Launch) (D : va_G) (G : Nat → Nat) (b0 : Nat) (f : hM) (bm : Nat) (X : Nat → Nat) (hX : xw G f X) (hB : ∀ i, i < 20 → X i < bm) (p0 : Int32) (p1 : Int32) : mI l yX10_join cX10_join 7 (.int) { frames := 2, cells := 0, slots := 0, locals := 43 } D G b0 f [.ref (X 0), .int p0, .int p1] (fun r f1 => (-1 : Int32) = r ∧ ∀ q, bm ≤ q → f1 q = f q) := by
  refine met_of (own := RX10) (by decide) rfl (Nat.le_of_ble_eq_true rfl) ?_
  intro p e s m below meth c ls C hr hini hl h
  have hl : lv_has ls 7 [(0, .ref (X 0)), (1, .int p0), (2, .int p1)] := hl
  obtain ⟨hx, hb, hml, hown, hts, hE0, hlk⟩ := id C
  obtain ⟨kx0, kx1, kx2, kx3, kx4, kx5, kx6, kx7, kx8, kx9⟩ := hX
  refine lv_aload_n hx hb dX10_join_0 rfl (lv_at hl 0 rfl) ?_
  refine q_get C h kx0 fl_X10_19 (v := .ref (X 2)) rfl dX10_join_1 ?_
  refine lv_iload_n hx hb dX10_join_4 rfl (lv_at hl 1 rfl) ?_
  refine k_q (r_V C h hl (As := [.int p0]) (rest := []) (c_X0_find l D G b0 f X ⟨kx0, kx1, kx2, kx3, kx4, kx5, kx6, kx7, kx8, kx9⟩ p0) kx2 (Cn := RX0) (T := TX0) (N := 6) rfl rfl mk_X0_find w_594 w_595 w_596 w_597 ⟨Nat.le_of_ble_eq_true rfl, Nat.le_of_ble_eq_true rfl⟩ rfl (Nat.le_of_ble_eq_true rfl) ⟨Nat.le_of_ble_eq_true rfl, Nat.le_of_ble_eq_true rfl⟩ rfl dX10_join_5) h (fun r_53 f_54 H locs p_55 h => ?_)
  obtain ⟨rfl, rfl⟩ := p_55
  refine lv_astore_nN (lv' := [(3, .null), (0, .ref (X 0)), (1, .int p0), (2, .int p1)]) hx hb dX10_join_8 rfl hl (by decide) rfl (fun ls hl => ?_)
  refine lv_aload_n hx hb dX10_join_9 rfl (lv_at hl 1 rfl) ?_
  refine q_get C h kx0 fl_X10_19 (v := .ref (X 2)) rfl dX10_join_10 ?_
  refine lv_iload_n hx hb dX10_join_13 rfl (lv_at hl 3 rfl) ?_
  refine k_q (r_V C h hl (As := [.int p1]) (rest := []) (c_X0_find l D G b0 f X ⟨kx0, kx1, kx2, kx3, kx4, kx5, kx6, kx7, kx8, kx9⟩ p1) kx2 (Cn := RX0) (T := TX0) (N := 6) rfl rfl mk_X0_find w_594 w_595 w_596 w_597 ⟨Nat.le_of_ble_eq_true rfl, Nat.le_of_ble_eq_true rfl⟩ rfl (Nat.le_of_ble_eq_true rfl) ⟨Nat.le_of_ble_eq_true rfl, Nat.le_of_ble_eq_true rfl⟩ rfl dX10_join_14) h (fun r_56 f_57 H locs p_58 h => ?_)
  obtain ⟨rfl, rfl⟩ := p_58
  refine lv_astoreN (lv' := [(4, .null), (3, .null), (0, .ref (X 0)), (1, .int p0), (2, .int p1)]) hx hb dX10_join_17 hl (by decide) rfl (fun ls hl => ?_)
  refine lv_aload_nN hx hb dX10_join_19 rfl (lv_at hl 1 rfl) ?_
  refine lv_ifnullN (tgt := 28) hx hb dX10_join_20 (by decide) ?_
  refine lv_aload_n hx hb dX10_join_28 rfl (lv_at hl 2 rfl) ?_
  refine lv_iconst (v := 0) hx hb dX10_join_29 (by decide) ?_
  refine k_i (r_V C h hl (As := [.int 0]) (rest := []) (c_X10_refuse l D G b0 f bm X ⟨kx0, kx1, kx2, kx3, kx4, kx5, kx6, kx7, kx8, kx9⟩ hB ) kx0 (Cn := RX10) (T := TX10) (N := 10) rfl rfl mk_X10_refuse w_519 w_521 w_8 w_522 ⟨Nat.le_of_ble_eq_true rfl, Nat.le_of_ble_eq_true rfl⟩ rfl (Nat.le_of_ble_eq_true rfl) ⟨Nat.le_of_ble_eq_true rfl, Nat.le_of_ble_eq_true rfl⟩ rfl dX10_join_30) h (fun r_59 f_60 H locs p_61 h => ?_)
  obtain ⟨rfl, p_61⟩ := p_61
  exact q_iret C h hr (⟨rfl, fun q hq => (p_61 q hq)⟩) (Nat.le_of_ble_eq_true rfl) (Nat.le_of_ble_eq_true rfl) dX10_join_33
set_option maxRecDepth 100000 in
set_option maxHeartbeats 4000000 in
theorem c_X10_scale (l : Launch) (D : va_G) (G : Nat → Nat) (b0 : Nat) (f : hM) (bm : Nat) (X : Nat → Nat) (hX : xw G f X) (hB : ∀ i, i < 20 → X i < bm) (p0 : Int32) (p1 : Int32) : mI l yX10_scale cX10_scale 6 (.int) { frames := 2, cells := 0, slots := 0, locals := 43 } D G b0 f [.ref (X 0), .int p0, .int p1] (fun r f1 => (-1 : Int32) = r ∧ ∀ q, bm ≤ q → f1 q = f q) := by
  refine met_of (own := RX10) (by decide) rfl (Nat.le_of_ble_eq_true rfl) ?_
  intro p e s m below meth c ls C hr hini hl h
  have hl : lv_has ls 6 [(0, .ref (X 0)), (1, .int p0), (2, .int p1)] := hl
  obtain ⟨hx, hb, hml, hown, hts, hE0, hlk⟩ := id C
  obtain ⟨kx0, kx1, kx2, kx3, kx4, kx5, kx6, kx7, kx8, kx9⟩ := hX
  refine lv_aload_n hx hb dX10_scale_0 rfl (lv_at hl 0 rfl) ?_
  refine q_get C h kx0 fl_X10_19 (v := .ref (X 2)) rfl dX10_scale_1 ?_
  refine lv_iload_n hx hb dX10_scale_4 rfl (lv_at hl 1 rfl) ?_
  refine k_q (r_V C h hl (As := [.int p0]) (rest := []) (c_X0_find l D G b0 f X ⟨kx0, kx1, kx2, kx3, kx4, kx5, kx6, kx7, kx8, kx9⟩ p0) kx2 (Cn := RX0) (T := TX0) (N := 6) rfl rfl mk_X0_find w_594 w_595 w_596 w_597 ⟨Nat.le_of_ble_eq_true rfl, Nat.le_of_ble_eq_true rfl⟩ rfl (Nat.le_of_ble_eq_true rfl) ⟨Nat.le_of_ble_eq_true rfl, Nat.le_of_ble_eq_true rfl⟩ rfl dX10_scale_5) h (fun r_62 f_63 H locs p_64 h => ?_)
  obtain ⟨rfl, rfl⟩ := p_64
  refine lv_astore_nN (lv' := [(3, .null), (0, .ref (X 0)), (1, .int p0), (2, .int p1)]) hx hb dX10_scale_8 rfl hl (by decide) rfl (fun ls hl => ?_)
  refine lv_aload_nN hx hb dX10_scale_9 rfl (lv_at hl 0 rfl) ?_
  refine lv_ifnonnullN hx hb dX10_scale_10 ?_
  refine lv_aload_n hx hb dX10_scale_13 rfl (lv_at hl 1 rfl) ?_
  refine lv_iconst (v := 0) hx hb dX10_scale_14 (by decide) ?_
  refine k_i (r_V C h hl (As := [.int 0]) (rest := []) (c_X10_refuse l D G b0 f bm X ⟨kx0, kx1, kx2, kx3, kx4, kx5, kx6, kx7, kx8, kx9⟩ hB ) kx0 (Cn := RX10) (T := TX10) (N := 10) rfl rfl mk_X10_refuse w_519 w_521 w_8 w_522 ⟨Nat.le_of_ble_eq_true rfl, Nat.le_of_ble_eq_true rfl⟩ rfl (Nat.le_of_ble_eq_true rfl) ⟨Nat.le_of_ble_eq_true rfl, Nat.le_of_ble_eq_true rfl⟩ rfl dX10_scale_15) h (fun r_65 f_66 H locs p_67 h => ?_)
  obtain ⟨rfl, p_67⟩ := p_67
  exact q_iret C h hr (⟨rfl, fun q hq => (p_67 q hq)⟩) (Nat.le_of_ble_eq_true rfl) (Nat.le_of_ble_eq_true rfl) dX10_scale_18
set_option maxRecDepth 100000 in
set_option maxHeartbeats 4000000 in
theorem c_X10_weigh (l : Launch) (D : va_G) (G : Nat → Nat) (b0 : Nat) (f : hM) (bm : Nat) (X : Nat → Nat) (hX : xw G f X) (hB : ∀ i, i < 20 → X i < bm) (p0 : Int32) (p1 : Int32) (p2 : Int32) : mI l yX10_weigh cX10_weigh 7 (.int) { frames := 2, cells := 0, slots := 0, locals := 43 } D G b0 f [.ref (X 0), .int p0, .int p1, .int p2] (fun r f1 => (-1 : Int32) = r ∧ ∀ q, bm ≤ q → f1 q = f q) := by
  refine met_of (own := RX10) (by decide) rfl (Nat.le_of_ble_eq_true rfl) ?_
  intro p e s m below meth c ls C hr hini hl h
  have hl : lv_has ls 7 [(0, .ref (X 0)), (1, .int p0), (2, .int p1), (3, .int p2)] := hl
  obtain ⟨hx, hb, hml, hown, hts, hE0, hlk⟩ := id C
  obtain ⟨kx0, kx1, kx2, kx3, kx4, kx5, kx6, kx7, kx8, kx9⟩ := hX
  refine lv_aload_n hx hb dX10_weigh_0 rfl (lv_at hl 0 rfl) ?_
  refine q_get C h kx0 fl_X10_19 (v := .ref (X 2)) rfl dX10_weigh_1 ?_
  refine lv_iload_n hx hb dX10_weigh_4 rfl (lv_at hl 1 rfl) ?_
  refine k_q (r_V C h hl (As := [.int p0]) (rest := []) (c_X0_find l D G b0 f X ⟨kx0, kx1, kx2, kx3, kx4, kx5, kx6, kx7, kx8, kx9⟩ p0) kx2 (Cn := RX0) (T := TX0) (N := 6) rfl rfl mk_X0_find w_594 w_595 w_596 w_597 ⟨Nat.le_of_ble_eq_true rfl, Nat.le_of_ble_eq_true rfl⟩ rfl (Nat.le_of_ble_eq_true rfl) ⟨Nat.le_of_ble_eq_true rfl, Nat.le_of_ble_eq_true rfl⟩ rfl dX10_weigh_5) h (fun r_68 f_69 H locs p_70 h => ?_)
  obtain ⟨rfl, rfl⟩ := p_70
  refine lv_astoreN (lv' := [(4, .null), (0, .ref (X 0)), (1, .int p0), (2, .int p1), (3, .int p2)]) hx hb dX10_weigh_8 hl (by decide) rfl (fun ls hl => ?_)
  refine lv_aloadN hx hb dX10_weigh_10 (lv_at hl 0 rfl) ?_
  refine lv_ifnonnullN hx hb dX10_weigh_12 ?_
  refine lv_aload_n hx hb dX10_weigh_15 rfl (lv_at hl 1 rfl) ?_
  refine lv_iconst (v := 0) hx hb dX10_weigh_16 (by decide) ?_
  refine k_i (r_V C h hl (As := [.int 0]) (rest := []) (c_X10_refuse l D G b0 f bm X ⟨kx0, kx1, kx2, kx3, kx4, kx5, kx6, kx7, kx8, kx9⟩ hB ) kx0 (Cn := RX10) (T := TX10) (N := 10) rfl rfl mk_X10_refuse w_519 w_521 w_8 w_522 ⟨Nat.le_of_ble_eq_true rfl, Nat.le_of_ble_eq_true rfl⟩ rfl (Nat.le_of_ble_eq_true rfl) ⟨Nat.le_of_ble_eq_true rfl, Nat.le_of_ble_eq_true rfl⟩ rfl dX10_weigh_17) h (fun r_71 f_72 H locs p_73 h => ?_)
  obtain ⟨rfl, p_73⟩ := p_73
  exact q_iret C h hr (⟨rfl, fun q hq => (p_73 q hq)⟩) (Nat.le_of_ble_eq_true rfl) (Nat.le_of_ble_eq_true rfl) dX10_weigh_20
set_option maxRecDepth 100000 in
set_option maxHeartbeats 4000000 in
theorem c_X10_start (l : Launch) (D : va_G) (G : Nat → Nat) (b0 : Nat) (f : hM) (bm : Nat) (X : Nat → Nat) (hX : xw G f X) (hB : ∀ i, i < 20 → X i < bm) (p0 : Int32) (p1 : Int32) (p2 : Int32) : mI l yX10_start cX10_start 5 (.int) { frames := 2, cells := 0, slots := 0, locals := 43 } D G b0 f [.ref (X 0), .int p0, .int p1, .int p2] (fun r f1 => (-1 : Int32) = r ∧ ∀ q, bm ≤ q → f1 q = f q) := by
  refine met_of (own := RX10) (by decide) rfl (Nat.le_of_ble_eq_true rfl) ?_
  intro p e s m below meth c ls C hr hini hl h
  have hl : lv_has ls 5 [(0, .ref (X 0)), (1, .int p0), (2, .int p1), (3, .int p2)] := hl
  obtain ⟨hx, hb, hml, hown, hts, hE0, hlk⟩ := id C
  obtain ⟨kx0, kx1, kx2, kx3, kx4, kx5, kx6, kx7, kx8, kx9⟩ := hX
  refine lv_aload_n hx hb dX10_start_0 rfl (lv_at hl 0 rfl) ?_
  refine q_get C h kx0 fl_X10_19 (v := .ref (X 2)) rfl dX10_start_1 ?_
  refine lv_iload_n hx hb dX10_start_4 rfl (lv_at hl 1 rfl) ?_
  refine k_q (r_V C h hl (As := [.int p0]) (rest := []) (c_X0_find l D G b0 f X ⟨kx0, kx1, kx2, kx3, kx4, kx5, kx6, kx7, kx8, kx9⟩ p0) kx2 (Cn := RX0) (T := TX0) (N := 6) rfl rfl mk_X0_find w_594 w_595 w_596 w_597 ⟨Nat.le_of_ble_eq_true rfl, Nat.le_of_ble_eq_true rfl⟩ rfl (Nat.le_of_ble_eq_true rfl) ⟨Nat.le_of_ble_eq_true rfl, Nat.le_of_ble_eq_true rfl⟩ rfl dX10_start_5) h (fun r_74 f_75 H locs p_76 h => ?_)
  obtain ⟨rfl, rfl⟩ := p_76
  refine lv_astoreN (lv' := [(4, .null), (0, .ref (X 0)), (1, .int p0), (2, .int p1), (3, .int p2)]) hx hb dX10_start_8 hl (by decide) rfl (fun ls hl => ?_)
  refine lv_aloadN hx hb dX10_start_10 (lv_at hl 0 rfl) ?_
  refine lv_ifnonnullN hx hb dX10_start_12 ?_
  refine lv_aload_n hx hb dX10_start_15 rfl (lv_at hl 1 rfl) ?_
  refine lv_iconst (v := 0) hx hb dX10_start_16 (by decide) ?_
  refine k_i (r_V C h hl (As := [.int 0]) (rest := []) (c_X10_refuse l D G b0 f bm X ⟨kx0, kx1, kx2, kx3, kx4, kx5, kx6, kx7, kx8, kx9⟩ hB ) kx0 (Cn := RX10) (T := TX10) (N := 10) rfl rfl mk_X10_refuse w_519 w_521 w_8 w_522 ⟨Nat.le_of_ble_eq_true rfl, Nat.le_of_ble_eq_true rfl⟩ rfl (Nat.le_of_ble_eq_true rfl) ⟨Nat.le_of_ble_eq_true rfl, Nat.le_of_ble_eq_true rfl⟩ rfl dX10_start_17) h (fun r_77 f_78 H locs p_79 h => ?_)
  obtain ⟨rfl, p_79⟩ := p_79
  exact q_iret C h hr (⟨rfl, fun q hq => (p_79 q hq)⟩) (Nat.le_of_ble_eq_true rfl) (Nat.le_of_ble_eq_true rfl) dX10_start_20
set_option maxRecDepth 100000 in
set_option maxHeartbeats 4000000 in
theorem c_X10_at (l : Launch) (D : va_G) (G : Nat → Nat) (b0 : Nat) (f : hM) (bm : Nat) (X : Nat → Nat) (hX : xw G f X) (hB : ∀ i, i < 20 → X i < bm) (p0 : Int32) (p1 : Int32) (p2 : Int32) (p3 : Int32) (p4 : Int32) : mI l yX10_at cX10_at 7 (.int) { frames := 2, cells := 0, slots := 0, locals := 43 } D G b0 f [.ref (X 0), .int p0, .int p1, .int p2, .int p3, .int p4] (fun r f1 => (-1 : Int32) = r ∧ ∀ q, bm ≤ q → f1 q = f q) := by
  refine met_of (own := RX10) (by decide) rfl (Nat.le_of_ble_eq_true rfl) ?_
  intro p e s m below meth c ls C hr hini hl h
  have hl : lv_has ls 7 [(0, .ref (X 0)), (1, .int p0), (2, .int p1), (3, .int p2), (4, .int p3), (5, .int p4)] := hl
  obtain ⟨hx, hb, hml, hown, hts, hE0, hlk⟩ := id C
  obtain ⟨kx0, kx1, kx2, kx3, kx4, kx5, kx6, kx7, kx8, kx9⟩ := hX
  refine lv_aload_n hx hb dX10_at_0 rfl (lv_at hl 0 rfl) ?_
  refine q_get C h kx0 fl_X10_19 (v := .ref (X 2)) rfl dX10_at_1 ?_
  refine lv_iload_n hx hb dX10_at_4 rfl (lv_at hl 2 rfl) ?_
  refine k_q (r_V C h hl (As := [.int p1]) (rest := []) (c_X0_find l D G b0 f X ⟨kx0, kx1, kx2, kx3, kx4, kx5, kx6, kx7, kx8, kx9⟩ p1) kx2 (Cn := RX0) (T := TX0) (N := 6) rfl rfl mk_X0_find w_594 w_595 w_596 w_597 ⟨Nat.le_of_ble_eq_true rfl, Nat.le_of_ble_eq_true rfl⟩ rfl (Nat.le_of_ble_eq_true rfl) ⟨Nat.le_of_ble_eq_true rfl, Nat.le_of_ble_eq_true rfl⟩ rfl dX10_at_5) h (fun r_80 f_81 H locs p_82 h => ?_)
  obtain ⟨rfl, rfl⟩ := p_82
  refine lv_astoreN (lv' := [(6, .null), (0, .ref (X 0)), (1, .int p0), (2, .int p1), (3, .int p2), (4, .int p3), (5, .int p4)]) hx hb dX10_at_8 hl (by decide) rfl (fun ls hl => ?_)
  refine lv_aloadN hx hb dX10_at_10 (lv_at hl 0 rfl) ?_
  refine lv_ifnullN (tgt := 41) hx hb dX10_at_12 (by decide) ?_
  refine lv_iconst (v := -1) hx hb dX10_at_41 (by decide) ?_
  exact q_iret C h hr (⟨rfl, fun q hq => rfl⟩) (Nat.le_of_ble_eq_true rfl) (Nat.le_of_ble_eq_true rfl) dX10_at_42
set_option maxRecDepth 100000 in
set_option maxHeartbeats 4000000 in
theorem c_X10_series (l : Launch) (D : va_G) (G : Nat → Nat) (b0 : Nat) (f : hM) (bm : Nat) (X : Nat → Nat) (hX : xw G f X) (hB : ∀ i, i < 20 → X i < bm) (p0 : Int32) (p1 : Int32) (p2 : Int32) : mI l yX10_series cX10_series 5 (.int) { frames := 2, cells := 0, slots := 0, locals := 43 } D G b0 f [.ref (X 0), .int p0, .int p1, .int p2] (fun r f1 => (-1 : Int32) = r ∧ ∀ q, bm ≤ q → f1 q = f q) := by
  refine met_of (own := RX10) (by decide) rfl (Nat.le_of_ble_eq_true rfl) ?_
  intro p e s m below meth c ls C hr hini hl h
  have hl : lv_has ls 5 [(0, .ref (X 0)), (1, .int p0), (2, .int p1), (3, .int p2)] := hl
  obtain ⟨hx, hb, hml, hown, hts, hE0, hlk⟩ := id C
  obtain ⟨kx0, kx1, kx2, kx3, kx4, kx5, kx6, kx7, kx8, kx9⟩ := hX
  refine lv_aload_n hx hb dX10_series_0 rfl (lv_at hl 0 rfl) ?_
  refine q_get C h kx0 fl_X10_19 (v := .ref (X 2)) rfl dX10_series_1 ?_
  refine lv_iload_n hx hb dX10_series_4 rfl (lv_at hl 1 rfl) ?_
  refine k_q (r_V C h hl (As := [.int p0]) (rest := []) (c_X0_find l D G b0 f X ⟨kx0, kx1, kx2, kx3, kx4, kx5, kx6, kx7, kx8, kx9⟩ p0) kx2 (Cn := RX0) (T := TX0) (N := 6) rfl rfl mk_X0_find w_594 w_595 w_596 w_597 ⟨Nat.le_of_ble_eq_true rfl, Nat.le_of_ble_eq_true rfl⟩ rfl (Nat.le_of_ble_eq_true rfl) ⟨Nat.le_of_ble_eq_true rfl, Nat.le_of_ble_eq_true rfl⟩ rfl dX10_series_5) h (fun r_83 f_84 H locs p_85 h => ?_)
  obtain ⟨rfl, rfl⟩ := p_85
  refine lv_astoreN (lv' := [(4, .null), (0, .ref (X 0)), (1, .int p0), (2, .int p1), (3, .int p2)]) hx hb dX10_series_8 hl (by decide) rfl (fun ls hl => ?_)
  refine lv_aloadN hx hb dX10_series_10 (lv_at hl 0 rfl) ?_
  refine lv_ifnullN (tgt := 29) hx hb dX10_series_12 (by decide) ?_
  refine lv_iconst (v := -1) hx hb dX10_series_29 (by decide) ?_
  exact q_iret C h hr (⟨rfl, fun q hq => rfl⟩) (Nat.le_of_ble_eq_true rfl) (Nat.le_of_ble_eq_true rfl) dX10_series_30
set_option maxRecDepth 100000 in
set_option maxHeartbeats 4000000 in
theorem c_X10_exact (l : Launch) (D : va_G) (G : Nat → Nat) (b0 : Nat) (f : hM) (bm : Nat) (X : Nat → Nat) (hX : xw G f X) (hB : ∀ i, i < 20 → X i < bm) (p0 : Int32) (p1 : Int32) (p2 : Int32) (p3 : Int32) : mL l yX10_exact cX10_exact 6 { frames := 2, cells := 0, slots := 0, locals := 43 } D G b0 f [.ref (X 0), .int p0, .int p1, .int p2, .int p3] (fun r f1 => (-1 : Int64) = r ∧ ∀ q, bm ≤ q → f1 q = f q) := by
  refine met_of (own := RX10) (by decide) rfl (Nat.le_of_ble_eq_true rfl) ?_
  intro p e s m below meth c ls C hr hini hl h
  have hl : lv_has ls 6 [(0, .ref (X 0)), (1, .int p0), (2, .int p1), (3, .int p2), (4, .int p3)] := hl
  obtain ⟨hx, hb, hml, hown, hts, hE0, hlk⟩ := id C
  obtain ⟨kx0, kx1, kx2, kx3, kx4, kx5, kx6, kx7, kx8, kx9⟩ := hX
  refine lv_aload_n hx hb dX10_exact_0 rfl (lv_at hl 0 rfl) ?_
  refine q_get C h kx0 fl_X10_19 (v := .ref (X 2)) rfl dX10_exact_1 ?_
  refine lv_iload_n hx hb dX10_exact_4 rfl (lv_at hl 1 rfl) ?_
  refine k_q (r_V C h hl (As := [.int p0]) (rest := []) (c_X0_find l D G b0 f X ⟨kx0, kx1, kx2, kx3, kx4, kx5, kx6, kx7, kx8, kx9⟩ p0) kx2 (Cn := RX0) (T := TX0) (N := 6) rfl rfl mk_X0_find w_594 w_595 w_596 w_597 ⟨Nat.le_of_ble_eq_true rfl, Nat.le_of_ble_eq_true rfl⟩ rfl (Nat.le_of_ble_eq_true rfl) ⟨Nat.le_of_ble_eq_true rfl, Nat.le_of_ble_eq_true rfl⟩ rfl dX10_exact_5) h (fun r_86 f_87 H locs p_88 h => ?_)
  obtain ⟨rfl, rfl⟩ := p_88
  refine lv_astoreN (lv' := [(5, .null), (0, .ref (X 0)), (1, .int p0), (2, .int p1), (3, .int p2), (4, .int p3)]) hx hb dX10_exact_8 hl (by decide) rfl (fun ls hl => ?_)
  refine lv_aloadN hx hb dX10_exact_10 (lv_at hl 0 rfl) ?_
  refine lv_ifnullN (tgt := 43) hx hb dX10_exact_12 (by decide) ?_
  refine lv_ldc2 (v := -1) hx hb hown (hts _ w_757) dX10_exact_43 ?_
  exact q_lret C h hr (⟨rfl, fun q hq => rfl⟩) (Nat.le_of_ble_eq_true rfl) (Nat.le_of_ble_eq_true rfl) dX10_exact_46
set_option maxRecDepth 100000 in
set_option maxHeartbeats 4000000 in
theorem c_X10_bridge (l : Launch) (D : va_G) (G : Nat → Nat) (b0 : Nat) (f : hM) (bm : Nat) (X : Nat → Nat) (hX : xw G f X) (hB : ∀ i, i < 20 → X i < bm) (p0 : Int32) (p1 : Int32) (p2 : Int32) (p3 : Int32) : mI l yX10_bridge cX10_bridge 6 (.int) { frames := 2, cells := 0, slots := 0, locals := 43 } D G b0 f [.ref (X 0), .int p0, .int p1, .int p2, .int p3] (fun r f1 => (-1 : Int32) = r ∧ ∀ q, bm ≤ q → f1 q = f q) := by
  refine met_of (own := RX10) (by decide) rfl (Nat.le_of_ble_eq_true rfl) ?_
  intro p e s m below meth c ls C hr hini hl h
  have hl : lv_has ls 6 [(0, .ref (X 0)), (1, .int p0), (2, .int p1), (3, .int p2), (4, .int p3)] := hl
  obtain ⟨hx, hb, hml, hown, hts, hE0, hlk⟩ := id C
  obtain ⟨kx0, kx1, kx2, kx3, kx4, kx5, kx6, kx7, kx8, kx9⟩ := hX
  refine lv_aload_n hx hb dX10_bridge_0 rfl (lv_at hl 0 rfl) ?_
  refine q_get C h kx0 fl_X10_19 (v := .ref (X 2)) rfl dX10_bridge_1 ?_
  refine lv_iload_n hx hb dX10_bridge_4 rfl (lv_at hl 1 rfl) ?_
  refine k_q (r_V C h hl (As := [.int p0]) (rest := []) (c_X0_find l D G b0 f X ⟨kx0, kx1, kx2, kx3, kx4, kx5, kx6, kx7, kx8, kx9⟩ p0) kx2 (Cn := RX0) (T := TX0) (N := 6) rfl rfl mk_X0_find w_594 w_595 w_596 w_597 ⟨Nat.le_of_ble_eq_true rfl, Nat.le_of_ble_eq_true rfl⟩ rfl (Nat.le_of_ble_eq_true rfl) ⟨Nat.le_of_ble_eq_true rfl, Nat.le_of_ble_eq_true rfl⟩ rfl dX10_bridge_5) h (fun r_89 f_90 H locs p_91 h => ?_)
  obtain ⟨rfl, rfl⟩ := p_91
  refine lv_astoreN (lv' := [(5, .null), (0, .ref (X 0)), (1, .int p0), (2, .int p1), (3, .int p2), (4, .int p3)]) hx hb dX10_bridge_8 hl (by decide) rfl (fun ls hl => ?_)
  refine lv_aloadN hx hb dX10_bridge_10 (lv_at hl 0 rfl) ?_
  refine lv_ifnullN (tgt := 31) hx hb dX10_bridge_12 (by decide) ?_
  refine lv_iconst (v := -1) hx hb dX10_bridge_31 (by decide) ?_
  exact q_iret C h hr (⟨rfl, fun q hq => rfl⟩) (Nat.le_of_ble_eq_true rfl) (Nat.le_of_ble_eq_true rfl) dX10_bridge_32
set_option maxRecDepth 100000 in
set_option maxHeartbeats 4000000 in
theorem c_X10_reflected (l : Launch) (D : va_G) (G : Nat → Nat) (b0 : Nat) (f : hM) (bm : Nat) (X : Nat → Nat) (hX : xw G f X) (hB : ∀ i, i < 20 → X i < bm) (p0 : Int32) (p1 : Int32) (p2 : Int32) (p3 : Int32) : mI l yX10_reflected cX10_reflected 10 (.int) { frames := 2, cells := 0, slots := 0, locals := 43 } D G b0 f [.ref (X 0), .int p0, .int p1, .int p2, .int p3] (fun r f1 => (-1000000 : Int32) = r ∧ ∀ q, bm ≤ q → f1 q = f q) := by
  refine met_of (own := RX10) (by decide) rfl (Nat.le_of_ble_eq_true rfl) ?_
  intro p e s m below meth c ls C hr hini hl h
  have hl : lv_has ls 10 [(0, .ref (X 0)), (1, .int p0), (2, .int p1), (3, .int p2), (4, .int p3)] := hl
  obtain ⟨hx, hb, hml, hown, hts, hE0, hlk⟩ := id C
  obtain ⟨kx0, kx1, kx2, kx3, kx4, kx5, kx6, kx7, kx8, kx9⟩ := hX
  refine lv_aload_n hx hb dX10_reflected_0 rfl (lv_at hl 0 rfl) ?_
  refine q_get C h kx0 fl_X10_19 (v := .ref (X 2)) rfl dX10_reflected_1 ?_
  refine lv_iload_n hx hb dX10_reflected_4 rfl (lv_at hl 1 rfl) ?_
  refine k_q (r_V C h hl (As := [.int p0]) (rest := []) (c_X0_find l D G b0 f X ⟨kx0, kx1, kx2, kx3, kx4, kx5, kx6, kx7, kx8, kx9⟩ p0) kx2 (Cn := RX0) (T := TX0) (N := 6) rfl rfl mk_X0_find w_594 w_595 w_596 w_597 ⟨Nat.le_of_ble_eq_true rfl, Nat.le_of_ble_eq_true rfl⟩ rfl (Nat.le_of_ble_eq_true rfl) ⟨Nat.le_of_ble_eq_true rfl, Nat.le_of_ble_eq_true rfl⟩ rfl dX10_reflected_5) h (fun r_92 f_93 H locs p_94 h => ?_)
  obtain ⟨rfl, rfl⟩ := p_94
  refine lv_astoreN (lv' := [(5, .null), (0, .ref (X 0)), (1, .int p0), (2, .int p1), (3, .int p2), (4, .int p3)]) hx hb dX10_reflected_8 hl (by decide) rfl (fun ls hl => ?_)
  refine lv_aloadN hx hb dX10_reflected_10 (lv_at hl 0 rfl) ?_
  refine lv_ifnullN (tgt := 43) hx hb dX10_reflected_12 (by decide) ?_
  refine lv_ldc (v := -1000000) hx hb hown (hts _ w_772) dX10_reflected_43 ?_
  exact q_iret C h hr (⟨rfl, fun q hq => rfl⟩) (Nat.le_of_ble_eq_true rfl) (Nat.le_of_ble_eq_true rfl) dX10_reflected_45
set_option maxRecDepth 100000 in
set_option maxHeartbeats 4000000 in
theorem c_X10_rank (l : Launch) (D : va_G) (G : Nat → Nat) (b0 : Nat) (f : hM) (bm : Nat) (X : Nat → Nat) (hX : xw G f X) (hB : ∀ i, i < 20 → X i < bm) (p0 : Int32) (p1 : Int32) : mI l yX10_rank cX10_rank 6 (.int) { frames := 2, cells := 0, slots := 0, locals := 43 } D G b0 f [.ref (X 0), .int p0, .int p1] (fun r f1 => (-1 : Int32) = r ∧ ∀ q, bm ≤ q → f1 q = f q) := by
  refine met_of (own := RX10) (by decide) rfl (Nat.le_of_ble_eq_true rfl) ?_
  intro p e s m below meth c ls C hr hini hl h
  have hl : lv_has ls 6 [(0, .ref (X 0)), (1, .int p0), (2, .int p1)] := hl
  obtain ⟨hx, hb, hml, hown, hts, hE0, hlk⟩ := id C
  obtain ⟨kx0, kx1, kx2, kx3, kx4, kx5, kx6, kx7, kx8, kx9⟩ := hX
  refine lv_aload_n hx hb dX10_rank_0 rfl (lv_at hl 0 rfl) ?_
  refine q_get C h kx0 fl_X10_19 (v := .ref (X 2)) rfl dX10_rank_1 ?_
  refine lv_iload_n hx hb dX10_rank_4 rfl (lv_at hl 1 rfl) ?_
  refine k_q (r_V C h hl (As := [.int p0]) (rest := []) (c_X0_find l D G b0 f X ⟨kx0, kx1, kx2, kx3, kx4, kx5, kx6, kx7, kx8, kx9⟩ p0) kx2 (Cn := RX0) (T := TX0) (N := 6) rfl rfl mk_X0_find w_594 w_595 w_596 w_597 ⟨Nat.le_of_ble_eq_true rfl, Nat.le_of_ble_eq_true rfl⟩ rfl (Nat.le_of_ble_eq_true rfl) ⟨Nat.le_of_ble_eq_true rfl, Nat.le_of_ble_eq_true rfl⟩ rfl dX10_rank_5) h (fun r_95 f_96 H locs p_97 h => ?_)
  obtain ⟨rfl, rfl⟩ := p_97
  refine lv_astore_nN (lv' := [(3, .null), (0, .ref (X 0)), (1, .int p0), (2, .int p1)]) hx hb dX10_rank_8 rfl hl (by decide) rfl (fun ls hl => ?_)
  refine lv_aload_nN hx hb dX10_rank_9 rfl (lv_at hl 0 rfl) ?_
  refine lv_ifnullN (tgt := 23) hx hb dX10_rank_10 (by decide) ?_
  refine lv_iconst (v := -1) hx hb dX10_rank_23 (by decide) ?_
  exact q_iret C h hr (⟨rfl, fun q hq => rfl⟩) (Nat.le_of_ble_eq_true rfl) (Nat.le_of_ble_eq_true rfl) dX10_rank_24
set_option maxRecDepth 100000 in
set_option maxHeartbeats 4000000 in
theorem c_X10_ratio (l : Launch) (D : va_G) (G : Nat → Nat) (b0 : Nat) (f : hM) (bm : Nat) (X : Nat → Nat) (hX : xw G f X) (hB : ∀ i, i < 20 → X i < bm) (p0 : Int32) (p1 : Int32) (p2 : Int32) : mI l yX10_ratio cX10_ratio 6 (.int) { frames := 2, cells := 0, slots := 0, locals := 43 } D G b0 f [.ref (X 0), .int p0, .int p1, .int p2] (fun r f1 => (-1 : Int32) = r ∧ ∀ q, bm ≤ q → f1 q = f q) := by
  refine met_of (own := RX10) (by decide) rfl (Nat.le_of_ble_eq_true rfl) ?_
  intro p e s m below meth c ls C hr hini hl h
  have hl : lv_has ls 6 [(0, .ref (X 0)), (1, .int p0), (2, .int p1), (3, .int p2)] := hl
  obtain ⟨hx, hb, hml, hown, hts, hE0, hlk⟩ := id C
  obtain ⟨kx0, kx1, kx2, kx3, kx4, kx5, kx6, kx7, kx8, kx9⟩ := hX
  refine lv_aload_n hx hb dX10_ratio_0 rfl (lv_at hl 0 rfl) ?_
  refine q_get C h kx0 fl_X10_19 (v := .ref (X 2)) rfl dX10_ratio_1 ?_
  refine lv_iload_n hx hb dX10_ratio_4 rfl (lv_at hl 1 rfl) ?_
  refine k_q (r_V C h hl (As := [.int p0]) (rest := []) (c_X0_find l D G b0 f X ⟨kx0, kx1, kx2, kx3, kx4, kx5, kx6, kx7, kx8, kx9⟩ p0) kx2 (Cn := RX0) (T := TX0) (N := 6) rfl rfl mk_X0_find w_594 w_595 w_596 w_597 ⟨Nat.le_of_ble_eq_true rfl, Nat.le_of_ble_eq_true rfl⟩ rfl (Nat.le_of_ble_eq_true rfl) ⟨Nat.le_of_ble_eq_true rfl, Nat.le_of_ble_eq_true rfl⟩ rfl dX10_ratio_5) h (fun r_98 f_99 H locs p_100 h => ?_)
  obtain ⟨rfl, rfl⟩ := p_100
  refine lv_astoreN (lv' := [(4, .null), (0, .ref (X 0)), (1, .int p0), (2, .int p1), (3, .int p2)]) hx hb dX10_ratio_8 hl (by decide) rfl (fun ls hl => ?_)
  refine lv_aloadN hx hb dX10_ratio_10 (lv_at hl 0 rfl) ?_
  refine lv_ifnullN (tgt := 32) hx hb dX10_ratio_12 (by decide) ?_
  refine lv_iconst (v := -1) hx hb dX10_ratio_32 (by decide) ?_
  exact q_iret C h hr (⟨rfl, fun q hq => rfl⟩) (Nat.le_of_ble_eq_true rfl) (Nat.le_of_ble_eq_true rfl) dX10_ratio_33
set_option maxRecDepth 100000 in
set_option maxHeartbeats 4000000 in
theorem c_X10_hankel (l : Launch) (D : va_G) (G : Nat → Nat) (b0 : Nat) (f : hM) (bm : Nat) (X : Nat → Nat) (hX : xw G f X) (hB : ∀ i, i < 20 → X i < bm) (p0 : Int32) (p1 : Int32) (p2 : Int32) : mI l yX10_hankel cX10_hankel 7 (.int) { frames := 2, cells := 0, slots := 0, locals := 43 } D G b0 f [.ref (X 0), .int p0, .int p1, .int p2] (fun r f1 => (-1 : Int32) = r ∧ ∀ q, bm ≤ q → f1 q = f q) := by
  refine met_of (own := RX10) (by decide) rfl (Nat.le_of_ble_eq_true rfl) ?_
  intro p e s m below meth c ls C hr hini hl h
  have hl : lv_has ls 7 [(0, .ref (X 0)), (1, .int p0), (2, .int p1), (3, .int p2)] := hl
  obtain ⟨hx, hb, hml, hown, hts, hE0, hlk⟩ := id C
  obtain ⟨kx0, kx1, kx2, kx3, kx4, kx5, kx6, kx7, kx8, kx9⟩ := hX
  refine lv_aload_n hx hb dX10_hankel_0 rfl (lv_at hl 0 rfl) ?_
  refine q_get C h kx0 fl_X10_19 (v := .ref (X 2)) rfl dX10_hankel_1 ?_
  refine lv_iload_n hx hb dX10_hankel_4 rfl (lv_at hl 1 rfl) ?_
  refine k_q (r_V C h hl (As := [.int p0]) (rest := []) (c_X0_find l D G b0 f X ⟨kx0, kx1, kx2, kx3, kx4, kx5, kx6, kx7, kx8, kx9⟩ p0) kx2 (Cn := RX0) (T := TX0) (N := 6) rfl rfl mk_X0_find w_594 w_595 w_596 w_597 ⟨Nat.le_of_ble_eq_true rfl, Nat.le_of_ble_eq_true rfl⟩ rfl (Nat.le_of_ble_eq_true rfl) ⟨Nat.le_of_ble_eq_true rfl, Nat.le_of_ble_eq_true rfl⟩ rfl dX10_hankel_5) h (fun r_101 f_102 H locs p_103 h => ?_)
  obtain ⟨rfl, rfl⟩ := p_103
  refine lv_astoreN (lv' := [(4, .null), (0, .ref (X 0)), (1, .int p0), (2, .int p1), (3, .int p2)]) hx hb dX10_hankel_8 hl (by decide) rfl (fun ls hl => ?_)
  refine lv_aloadN hx hb dX10_hankel_10 (lv_at hl 0 rfl) ?_
  refine lv_ifnullN (tgt := 32) hx hb dX10_hankel_12 (by decide) ?_
  refine lv_iconst (v := -1) hx hb dX10_hankel_32 (by decide) ?_
  exact q_iret C h hr (⟨rfl, fun q hq => rfl⟩) (Nat.le_of_ble_eq_true rfl) (Nat.le_of_ble_eq_true rfl) dX10_hankel_33
set_option maxRecDepth 100000 in
set_option maxHeartbeats 4000000 in
theorem c_X10_convolved (l : Launch) (D : va_G) (G : Nat → Nat) (b0 : Nat) (f : hM) (bm : Nat) (X : Nat → Nat) (hX : xw G f X) (hB : ∀ i, i < 20 → X i < bm) (p0 : Int32) (p1 : Int32) (p2 : Int32) (p3 : Int32) (p4 : Int32) : mI l yX10_convolved cX10_convolved 11 (.int) { frames := 2, cells := 0, slots := 0, locals := 43 } D G b0 f [.ref (X 0), .int p0, .int p1, .int p2, .int p3, .int p4] (fun r f1 => (-1 : Int32) = r ∧ ∀ q, bm ≤ q → f1 q = f q) := by
  refine met_of (own := RX10) (by decide) rfl (Nat.le_of_ble_eq_true rfl) ?_
  intro p e s m below meth c ls C hr hini hl h
  have hl : lv_has ls 11 [(0, .ref (X 0)), (1, .int p0), (2, .int p1), (3, .int p2), (4, .int p3), (5, .int p4)] := hl
  obtain ⟨hx, hb, hml, hown, hts, hE0, hlk⟩ := id C
  obtain ⟨kx0, kx1, kx2, kx3, kx4, kx5, kx6, kx7, kx8, kx9⟩ := hX
  refine lv_aload_n hx hb dX10_convolved_0 rfl (lv_at hl 0 rfl) ?_
  refine q_get C h kx0 fl_X10_19 (v := .ref (X 2)) rfl dX10_convolved_1 ?_
  refine lv_iload_n hx hb dX10_convolved_4 rfl (lv_at hl 1 rfl) ?_
  refine k_q (r_V C h hl (As := [.int p0]) (rest := []) (c_X0_find l D G b0 f X ⟨kx0, kx1, kx2, kx3, kx4, kx5, kx6, kx7, kx8, kx9⟩ p0) kx2 (Cn := RX0) (T := TX0) (N := 6) rfl rfl mk_X0_find w_594 w_595 w_596 w_597 ⟨Nat.le_of_ble_eq_true rfl, Nat.le_of_ble_eq_true rfl⟩ rfl (Nat.le_of_ble_eq_true rfl) ⟨Nat.le_of_ble_eq_true rfl, Nat.le_of_ble_eq_true rfl⟩ rfl dX10_convolved_5) h (fun r_104 f_105 H locs p_106 h => ?_)
  obtain ⟨rfl, rfl⟩ := p_106
  refine lv_astoreN (lv' := [(6, .null), (0, .ref (X 0)), (1, .int p0), (2, .int p1), (3, .int p2), (4, .int p3), (5, .int p4)]) hx hb dX10_convolved_8 hl (by decide) rfl (fun ls hl => ?_)
  refine lv_aload_n hx hb dX10_convolved_10 rfl (lv_at hl 1 rfl) ?_
  refine q_get C h kx0 fl_X10_19 (v := .ref (X 2)) rfl dX10_convolved_11 ?_
  refine lv_iload_n hx hb dX10_convolved_14 rfl (lv_at hl 4 rfl) ?_
  refine k_q (r_V C h hl (As := [.int p2]) (rest := []) (c_X0_find l D G b0 f X ⟨kx0, kx1, kx2, kx3, kx4, kx5, kx6, kx7, kx8, kx9⟩ p2) kx2 (Cn := RX0) (T := TX0) (N := 6) rfl rfl mk_X0_find w_594 w_595 w_596 w_597 ⟨Nat.le_of_ble_eq_true rfl, Nat.le_of_ble_eq_true rfl⟩ rfl (Nat.le_of_ble_eq_true rfl) ⟨Nat.le_of_ble_eq_true rfl, Nat.le_of_ble_eq_true rfl⟩ rfl dX10_convolved_15) h (fun r_107 f_108 H locs p_109 h => ?_)
  obtain ⟨rfl, rfl⟩ := p_109
  refine lv_astoreN (lv' := [(7, .null), (6, .null), (0, .ref (X 0)), (1, .int p0), (2, .int p1), (3, .int p2), (4, .int p3), (5, .int p4)]) hx hb dX10_convolved_18 hl (by decide) rfl (fun ls hl => ?_)
  refine lv_aloadN hx hb dX10_convolved_20 (lv_at hl 1 rfl) ?_
  refine lv_ifnullN (tgt := 53) hx hb dX10_convolved_22 (by decide) ?_
  refine lv_iconst (v := -1) hx hb dX10_convolved_53 (by decide) ?_
  exact q_iret C h hr (⟨rfl, fun q hq => rfl⟩) (Nat.le_of_ble_eq_true rfl) (Nat.le_of_ble_eq_true rfl) dX10_convolved_54
set_option maxRecDepth 100000 in
set_option maxHeartbeats 4000000 in
theorem c_X10_out (l : Launch) (D : va_G) (G : Nat → Nat) (b0 : Nat) (f : hM) (bm : Nat) (X : Nat → Nat) (hX : xw G f X) (hB : ∀ i, i < 20 → X i < bm) (p0 : Int32) (p1 : Int32) : mI l yX10_out cX10_out 4 (.int) { frames := 2, cells := 0, slots := 0, locals := 43 } D G b0 f [.ref (X 0), .int p0, .int p1] (fun r f1 => (-1 : Int32) = r ∧ ∀ q, bm ≤ q → f1 q = f q) := by
  refine met_of (own := RX10) (by decide) rfl (Nat.le_of_ble_eq_true rfl) ?_
  intro p e s m below meth c ls C hr hini hl h
  have hl : lv_has ls 4 [(0, .ref (X 0)), (1, .int p0), (2, .int p1)] := hl
  obtain ⟨hx, hb, hml, hown, hts, hE0, hlk⟩ := id C
  obtain ⟨kx0, kx1, kx2, kx3, kx4, kx5, kx6, kx7, kx8, kx9⟩ := hX
  refine lv_aload_n hx hb dX10_out_0 rfl (lv_at hl 0 rfl) ?_
  refine q_get C h kx0 fl_X10_19 (v := .ref (X 2)) rfl dX10_out_1 ?_
  refine lv_iload_n hx hb dX10_out_4 rfl (lv_at hl 1 rfl) ?_
  refine k_q (r_V C h hl (As := [.int p0]) (rest := []) (c_X0_find l D G b0 f X ⟨kx0, kx1, kx2, kx3, kx4, kx5, kx6, kx7, kx8, kx9⟩ p0) kx2 (Cn := RX0) (T := TX0) (N := 6) rfl rfl mk_X0_find w_594 w_595 w_596 w_597 ⟨Nat.le_of_ble_eq_true rfl, Nat.le_of_ble_eq_true rfl⟩ rfl (Nat.le_of_ble_eq_true rfl) ⟨Nat.le_of_ble_eq_true rfl, Nat.le_of_ble_eq_true rfl⟩ rfl dX10_out_5) h (fun r_110 f_111 H locs p_112 h => ?_)
  obtain ⟨rfl, rfl⟩ := p_112
  refine lv_astore_nN (lv' := [(3, .null), (0, .ref (X 0)), (1, .int p0), (2, .int p1)]) hx hb dX10_out_8 rfl hl (by decide) rfl (fun ls hl => ?_)
  refine lv_aload_nN hx hb dX10_out_9 rfl (lv_at hl 0 rfl) ?_
  refine lv_ifnullN (tgt := 20) hx hb dX10_out_10 (by decide) ?_
  refine lv_iconst (v := -1) hx hb dX10_out_20 (by decide) ?_
  exact q_iret C h hr (⟨rfl, fun q hq => rfl⟩) (Nat.le_of_ble_eq_true rfl) (Nat.le_of_ble_eq_true rfl) dX10_out_21
set_option maxRecDepth 100000 in
set_option maxHeartbeats 4000000 in
theorem c_X10_arches (l : Launch) (D : va_G) (G : Nat → Nat) (b0 : Nat) (f : hM) (bm : Nat) (X : Nat → Nat) (hX : xw G f X) (hB : ∀ i, i < 20 → X i < bm) (p0 : Int32) (p1 : Int32) : mI l yX10_arches cX10_arches 8 (.int) { frames := 2, cells := 0, slots := 0, locals := 43 } D G b0 f [.ref (X 0), .int p0, .int p1] (fun r f1 => (-1 : Int32) = r ∧ ∀ q, bm ≤ q → f1 q = f q) := by
  refine met_of (own := RX10) (by decide) rfl (Nat.le_of_ble_eq_true rfl) ?_
  intro p e s m below meth c ls C hr hini hl h
  have hl : lv_has ls 8 [(0, .ref (X 0)), (1, .int p0), (2, .int p1)] := hl
  obtain ⟨hx, hb, hml, hown, hts, hE0, hlk⟩ := id C
  obtain ⟨kx0, kx1, kx2, kx3, kx4, kx5, kx6, kx7, kx8, kx9⟩ := hX
  refine lv_aload_n hx hb dX10_arches_0 rfl (lv_at hl 0 rfl) ?_
  refine q_get C h kx0 fl_X10_19 (v := .ref (X 2)) rfl dX10_arches_1 ?_
  refine lv_iload_n hx hb dX10_arches_4 rfl (lv_at hl 1 rfl) ?_
  refine k_q (r_V C h hl (As := [.int p0]) (rest := []) (c_X0_find l D G b0 f X ⟨kx0, kx1, kx2, kx3, kx4, kx5, kx6, kx7, kx8, kx9⟩ p0) kx2 (Cn := RX0) (T := TX0) (N := 6) rfl rfl mk_X0_find w_594 w_595 w_596 w_597 ⟨Nat.le_of_ble_eq_true rfl, Nat.le_of_ble_eq_true rfl⟩ rfl (Nat.le_of_ble_eq_true rfl) ⟨Nat.le_of_ble_eq_true rfl, Nat.le_of_ble_eq_true rfl⟩ rfl dX10_arches_5) h (fun r_113 f_114 H locs p_115 h => ?_)
  obtain ⟨rfl, rfl⟩ := p_115
  refine lv_astore_nN (lv' := [(3, .null), (0, .ref (X 0)), (1, .int p0), (2, .int p1)]) hx hb dX10_arches_8 rfl hl (by decide) rfl (fun ls hl => ?_)
  refine lv_aload_nN hx hb dX10_arches_9 rfl (lv_at hl 0 rfl) ?_
  refine lv_ifnullN (tgt := 23) hx hb dX10_arches_10 (by decide) ?_
  refine lv_iconst (v := -1) hx hb dX10_arches_23 (by decide) ?_
  exact q_iret C h hr (⟨rfl, fun q hq => rfl⟩) (Nat.le_of_ble_eq_true rfl) (Nat.le_of_ble_eq_true rfl) dX10_arches_24
set_option maxRecDepth 100000 in
set_option maxHeartbeats 4000000 in
theorem c_X10_value (l : Launch) (D : va_G) (G : Nat → Nat) (b0 : Nat) (f : hM) (bm : Nat) (X : Nat → Nat) (hX : xw G f X) (hB : ∀ i, i < 20 → X i < bm) (p0 : Int32) (p1 : Int32) (p2 : Int32) (p3 : Int32) : mI l yX10_value cX10_value 6 (.int) { frames := 2, cells := 0, slots := 0, locals := 43 } D G b0 f [.ref (X 0), .int p0, .int p1, .int p2, .int p3] (fun r f1 => (-1 : Int32) = r ∧ ∀ q, bm ≤ q → f1 q = f q) := by
  refine met_of (own := RX10) (by decide) rfl (Nat.le_of_ble_eq_true rfl) ?_
  intro p e s m below meth c ls C hr hini hl h
  have hl : lv_has ls 6 [(0, .ref (X 0)), (1, .int p0), (2, .int p1), (3, .int p2), (4, .int p3)] := hl
  obtain ⟨hx, hb, hml, hown, hts, hE0, hlk⟩ := id C
  obtain ⟨kx0, kx1, kx2, kx3, kx4, kx5, kx6, kx7, kx8, kx9⟩ := hX
  refine lv_aload_n hx hb dX10_value_0 rfl (lv_at hl 0 rfl) ?_
  refine q_get C h kx0 fl_X10_19 (v := .ref (X 2)) rfl dX10_value_1 ?_
  refine lv_iload_n hx hb dX10_value_4 rfl (lv_at hl 1 rfl) ?_
  refine k_q (r_V C h hl (As := [.int p0]) (rest := []) (c_X0_find l D G b0 f X ⟨kx0, kx1, kx2, kx3, kx4, kx5, kx6, kx7, kx8, kx9⟩ p0) kx2 (Cn := RX0) (T := TX0) (N := 6) rfl rfl mk_X0_find w_594 w_595 w_596 w_597 ⟨Nat.le_of_ble_eq_true rfl, Nat.le_of_ble_eq_true rfl⟩ rfl (Nat.le_of_ble_eq_true rfl) ⟨Nat.le_of_ble_eq_true rfl, Nat.le_of_ble_eq_true rfl⟩ rfl dX10_value_5) h (fun r_116 f_117 H locs p_118 h => ?_)
  obtain ⟨rfl, rfl⟩ := p_118
  refine lv_astoreN (lv' := [(5, .null), (0, .ref (X 0)), (1, .int p0), (2, .int p1), (3, .int p2), (4, .int p3)]) hx hb dX10_value_8 hl (by decide) rfl (fun ls hl => ?_)
  refine lv_aloadN hx hb dX10_value_10 (lv_at hl 0 rfl) ?_
  refine lv_ifnullN (tgt := 43) hx hb dX10_value_12 (by decide) ?_
  refine lv_iconst (v := -1) hx hb dX10_value_43 (by decide) ?_
  exact q_iret C h hr (⟨rfl, fun q hq => rfl⟩) (Nat.le_of_ble_eq_true rfl) (Nat.le_of_ble_eq_true rfl) dX10_value_44
set_option maxRecDepth 100000 in
set_option maxHeartbeats 4000000 in
theorem c_X10_walk (l : Launch) (D : va_G) (G : Nat → Nat) (b0 : Nat) (f : hM) (bm : Nat) (X : Nat → Nat) (hX : xw G f X) (hB : ∀ i, i < 20 → X i < bm) (p0 : Int32) (p1 : Int32) (p2 : Int32) (p3 : Int32) (p4 : Int32) (p5 : Int32) : mI l yX10_walk cX10_walk 9 (.int) { frames := 2, cells := 0, slots := 0, locals := 43 } D G b0 f [.ref (X 0), .int p0, .int p1, .int p2, .int p3, .int p4, .int p5] (fun r f1 => (-1000000 : Int32) = r ∧ ∀ q, bm ≤ q → f1 q = f q) := by
  refine met_of (own := RX10) (by decide) rfl (Nat.le_of_ble_eq_true rfl) ?_
  intro p e s m below meth c ls C hr hini hl h
  have hl : lv_has ls 9 [(0, .ref (X 0)), (1, .int p0), (2, .int p1), (3, .int p2), (4, .int p3), (5, .int p4), (6, .int p5)] := hl
  obtain ⟨hx, hb, hml, hown, hts, hE0, hlk⟩ := id C
  obtain ⟨kx0, kx1, kx2, kx3, kx4, kx5, kx6, kx7, kx8, kx9⟩ := hX
  refine lv_aload_n hx hb dX10_walk_0 rfl (lv_at hl 0 rfl) ?_
  refine q_get C h kx0 fl_X10_19 (v := .ref (X 2)) rfl dX10_walk_1 ?_
  refine lv_iload_n hx hb dX10_walk_4 rfl (lv_at hl 1 rfl) ?_
  refine k_q (r_V C h hl (As := [.int p0]) (rest := []) (c_X0_find l D G b0 f X ⟨kx0, kx1, kx2, kx3, kx4, kx5, kx6, kx7, kx8, kx9⟩ p0) kx2 (Cn := RX0) (T := TX0) (N := 6) rfl rfl mk_X0_find w_594 w_595 w_596 w_597 ⟨Nat.le_of_ble_eq_true rfl, Nat.le_of_ble_eq_true rfl⟩ rfl (Nat.le_of_ble_eq_true rfl) ⟨Nat.le_of_ble_eq_true rfl, Nat.le_of_ble_eq_true rfl⟩ rfl dX10_walk_5) h (fun r_119 f_120 H locs p_121 h => ?_)
  obtain ⟨rfl, rfl⟩ := p_121
  refine lv_astoreN (lv' := [(7, .null), (0, .ref (X 0)), (1, .int p0), (2, .int p1), (3, .int p2), (4, .int p3), (5, .int p4), (6, .int p5)]) hx hb dX10_walk_8 hl (by decide) rfl (fun ls hl => ?_)
  refine lv_aloadN hx hb dX10_walk_10 (lv_at hl 0 rfl) ?_
  refine lv_ifnullN (tgt := 34) hx hb dX10_walk_12 (by decide) ?_
  refine lv_ldc (v := -1000000) hx hb hown (hts _ w_772) dX10_walk_34 ?_
  exact q_iret C h hr (⟨rfl, fun q hq => rfl⟩) (Nat.le_of_ble_eq_true rfl) (Nat.le_of_ble_eq_true rfl) dX10_walk_36
set_option maxRecDepth 100000 in
set_option maxHeartbeats 4000000 in
theorem c_X10_drawn (l : Launch) (D : va_G) (G : Nat → Nat) (b0 : Nat) (f : hM) (bm : Nat) (X : Nat → Nat) (hX : xw G f X) (hB : ∀ i, i < 20 → X i < bm) (p0 : Int32) (p1 : Int32) (p2 : Int32) (p3 : Int32) (p4 : Int64) (p5 : Int32) : mI l yX10_drawn cX10_drawn 12 (.int) { frames := 2, cells := 0, slots := 0, locals := 43 } D G b0 f [.ref (X 0), .int p0, .int p1, .int p2, .int p3, .long p4, .int p5] (fun r f1 => (-1000000 : Int32) = r ∧ ∀ q, bm ≤ q → f1 q = f q) := by
  refine met_of (own := RX10) (by decide) rfl (Nat.le_of_ble_eq_true rfl) ?_
  intro p e s m below meth c ls C hr hini hl h
  have hl : lv_has ls 12 [(0, .ref (X 0)), (1, .int p0), (2, .int p1), (3, .int p2), (4, .int p3), (5, .long p4), (7, .int p5)] := hl
  obtain ⟨hx, hb, hml, hown, hts, hE0, hlk⟩ := id C
  obtain ⟨kx0, kx1, kx2, kx3, kx4, kx5, kx6, kx7, kx8, kx9⟩ := hX
  refine lv_aload_n hx hb dX10_drawn_0 rfl (lv_at hl 0 rfl) ?_
  refine q_get C h kx0 fl_X10_19 (v := .ref (X 2)) rfl dX10_drawn_1 ?_
  refine lv_iload_n hx hb dX10_drawn_4 rfl (lv_at hl 1 rfl) ?_
  refine k_q (r_V C h hl (As := [.int p0]) (rest := []) (c_X0_find l D G b0 f X ⟨kx0, kx1, kx2, kx3, kx4, kx5, kx6, kx7, kx8, kx9⟩ p0) kx2 (Cn := RX0) (T := TX0) (N := 6) rfl rfl mk_X0_find w_594 w_595 w_596 w_597 ⟨Nat.le_of_ble_eq_true rfl, Nat.le_of_ble_eq_true rfl⟩ rfl (Nat.le_of_ble_eq_true rfl) ⟨Nat.le_of_ble_eq_true rfl, Nat.le_of_ble_eq_true rfl⟩ rfl dX10_drawn_5) h (fun r_122 f_123 H locs p_124 h => ?_)
  obtain ⟨rfl, rfl⟩ := p_124
  refine lv_astoreN (lv' := [(8, .null), (0, .ref (X 0)), (1, .int p0), (2, .int p1), (3, .int p2), (4, .int p3), (5, .long p4), (7, .int p5)]) hx hb dX10_drawn_8 hl (by decide) rfl (fun ls hl => ?_)
  refine lv_aloadN hx hb dX10_drawn_10 (lv_at hl 0 rfl) ?_
  refine lv_ifnullN (tgt := 46) hx hb dX10_drawn_12 (by decide) ?_
  refine lv_ldc (v := -1000000) hx hb hown (hts _ w_772) dX10_drawn_46 ?_
  exact q_iret C h hr (⟨rfl, fun q hq => rfl⟩) (Nat.le_of_ble_eq_true rfl) (Nat.le_of_ble_eq_true rfl) dX10_drawn_48
set_option maxRecDepth 100000 in
set_option maxHeartbeats 4000000 in
theorem c_X10_peak (l : Launch) (D : va_G) (G : Nat → Nat) (b0 : Nat) (f : hM) (bm : Nat) (X : Nat → Nat) (hX : xw G f X) (hB : ∀ i, i < 20 → X i < bm) (p0 : Int32) (p1 : Int32) (p2 : Int32) : mI l yX10_peak cX10_peak 5 (.int) { frames := 2, cells := 0, slots := 0, locals := 43 } D G b0 f [.ref (X 0), .int p0, .int p1, .int p2] (fun r f1 => (-1000000 : Int32) = r ∧ ∀ q, bm ≤ q → f1 q = f q) := by
  refine met_of (own := RX10) (by decide) rfl (Nat.le_of_ble_eq_true rfl) ?_
  intro p e s m below meth c ls C hr hini hl h
  have hl : lv_has ls 5 [(0, .ref (X 0)), (1, .int p0), (2, .int p1), (3, .int p2)] := hl
  obtain ⟨hx, hb, hml, hown, hts, hE0, hlk⟩ := id C
  obtain ⟨kx0, kx1, kx2, kx3, kx4, kx5, kx6, kx7, kx8, kx9⟩ := hX
  refine lv_aload_n hx hb dX10_peak_0 rfl (lv_at hl 0 rfl) ?_
  refine q_get C h kx0 fl_X10_19 (v := .ref (X 2)) rfl dX10_peak_1 ?_
  refine lv_iload_n hx hb dX10_peak_4 rfl (lv_at hl 1 rfl) ?_
  refine k_q (r_V C h hl (As := [.int p0]) (rest := []) (c_X0_find l D G b0 f X ⟨kx0, kx1, kx2, kx3, kx4, kx5, kx6, kx7, kx8, kx9⟩ p0) kx2 (Cn := RX0) (T := TX0) (N := 6) rfl rfl mk_X0_find w_594 w_595 w_596 w_597 ⟨Nat.le_of_ble_eq_true rfl, Nat.le_of_ble_eq_true rfl⟩ rfl (Nat.le_of_ble_eq_true rfl) ⟨Nat.le_of_ble_eq_true rfl, Nat.le_of_ble_eq_true rfl⟩ rfl dX10_peak_5) h (fun r_125 f_126 H locs p_127 h => ?_)
  obtain ⟨rfl, rfl⟩ := p_127
  refine lv_astoreN (lv' := [(4, .null), (0, .ref (X 0)), (1, .int p0), (2, .int p1), (3, .int p2)]) hx hb dX10_peak_8 hl (by decide) rfl (fun ls hl => ?_)
  refine lv_aloadN hx hb dX10_peak_10 (lv_at hl 0 rfl) ?_
  refine lv_ifnullN (tgt := 34) hx hb dX10_peak_12 (by decide) ?_
  refine lv_ldc (v := -1000000) hx hb hown (hts _ w_772) dX10_peak_34 ?_
  exact q_iret C h hr (⟨rfl, fun q hq => rfl⟩) (Nat.le_of_ble_eq_true rfl) (Nat.le_of_ble_eq_true rfl) dX10_peak_36
set_option maxRecDepth 100000 in
set_option maxHeartbeats 4000000 in
theorem c_X10_points (l : Launch) (D : va_G) (G : Nat → Nat) (b0 : Nat) (f : hM) (bm : Nat) (X : Nat → Nat) (hX : xw G f X) (hB : ∀ i, i < 20 → X i < bm) (p0 : Int32) (p1 : Int32) : mI l yX10_points cX10_points 4 (.int) { frames := 2, cells := 0, slots := 0, locals := 43 } D G b0 f [.ref (X 0), .int p0, .int p1] (fun r f1 => (-1 : Int32) = r ∧ ∀ q, bm ≤ q → f1 q = f q) := by
  refine met_of (own := RX10) (by decide) rfl (Nat.le_of_ble_eq_true rfl) ?_
  intro p e s m below meth c ls C hr hini hl h
  have hl : lv_has ls 4 [(0, .ref (X 0)), (1, .int p0), (2, .int p1)] := hl
  obtain ⟨hx, hb, hml, hown, hts, hE0, hlk⟩ := id C
  obtain ⟨kx0, kx1, kx2, kx3, kx4, kx5, kx6, kx7, kx8, kx9⟩ := hX
  refine lv_aload_n hx hb dX10_points_0 rfl (lv_at hl 0 rfl) ?_
  refine q_get C h kx0 fl_X10_19 (v := .ref (X 2)) rfl dX10_points_1 ?_
  refine lv_iload_n hx hb dX10_points_4 rfl (lv_at hl 1 rfl) ?_
  refine k_q (r_V C h hl (As := [.int p0]) (rest := []) (c_X0_find l D G b0 f X ⟨kx0, kx1, kx2, kx3, kx4, kx5, kx6, kx7, kx8, kx9⟩ p0) kx2 (Cn := RX0) (T := TX0) (N := 6) rfl rfl mk_X0_find w_594 w_595 w_596 w_597 ⟨Nat.le_of_ble_eq_true rfl, Nat.le_of_ble_eq_true rfl⟩ rfl (Nat.le_of_ble_eq_true rfl) ⟨Nat.le_of_ble_eq_true rfl, Nat.le_of_ble_eq_true rfl⟩ rfl dX10_points_5) h (fun r_128 f_129 H locs p_130 h => ?_)
  obtain ⟨rfl, rfl⟩ := p_130
  refine lv_astore_nN (lv' := [(3, .null), (0, .ref (X 0)), (1, .int p0), (2, .int p1)]) hx hb dX10_points_8 rfl hl (by decide) rfl (fun ls hl => ?_)
  refine lv_aload_nN hx hb dX10_points_9 rfl (lv_at hl 0 rfl) ?_
  refine lv_ifnullN (tgt := 20) hx hb dX10_points_10 (by decide) ?_
  refine lv_iconst (v := -1) hx hb dX10_points_20 (by decide) ?_
  exact q_iret C h hr (⟨rfl, fun q hq => rfl⟩) (Nat.le_of_ble_eq_true rfl) (Nat.le_of_ble_eq_true rfl) dX10_points_21
set_option maxRecDepth 100000 in
set_option maxHeartbeats 4000000 in
theorem c_X10_fewest (l : Launch) (D : va_G) (G : Nat → Nat) (b0 : Nat) (f : hM) (bm : Nat) (X : Nat → Nat) (hX : xw G f X) (hB : ∀ i, i < 20 → X i < bm) (p0 : Int32) (p1 : Int32) (p2 : Int32) : mI l yX10_fewest cX10_fewest 6 (.int) { frames := 2, cells := 0, slots := 0, locals := 43 } D G b0 f [.ref (X 0), .int p0, .int p1, .int p2] (fun r f1 => (-1 : Int32) = r ∧ ∀ q, bm ≤ q → f1 q = f q) := by
  refine met_of (own := RX10) (by decide) rfl (Nat.le_of_ble_eq_true rfl) ?_
  intro p e s m below meth c ls C hr hini hl h
  have hl : lv_has ls 6 [(0, .ref (X 0)), (1, .int p0), (2, .int p1), (3, .int p2)] := hl
  obtain ⟨hx, hb, hml, hown, hts, hE0, hlk⟩ := id C
  obtain ⟨kx0, kx1, kx2, kx3, kx4, kx5, kx6, kx7, kx8, kx9⟩ := hX
  refine lv_aload_n hx hb dX10_fewest_0 rfl (lv_at hl 0 rfl) ?_
  refine q_get C h kx0 fl_X10_19 (v := .ref (X 2)) rfl dX10_fewest_1 ?_
  refine lv_iload_n hx hb dX10_fewest_4 rfl (lv_at hl 1 rfl) ?_
  refine k_q (r_V C h hl (As := [.int p0]) (rest := []) (c_X0_find l D G b0 f X ⟨kx0, kx1, kx2, kx3, kx4, kx5, kx6, kx7, kx8, kx9⟩ p0) kx2 (Cn := RX0) (T := TX0) (N := 6) rfl rfl mk_X0_find w_594 w_595 w_596 w_597 ⟨Nat.le_of_ble_eq_true rfl, Nat.le_of_ble_eq_true rfl⟩ rfl (Nat.le_of_ble_eq_true rfl) ⟨Nat.le_of_ble_eq_true rfl, Nat.le_of_ble_eq_true rfl⟩ rfl dX10_fewest_5) h (fun r_131 f_132 H locs p_133 h => ?_)
  obtain ⟨rfl, rfl⟩ := p_133
  refine lv_astoreN (lv' := [(4, .null), (0, .ref (X 0)), (1, .int p0), (2, .int p1), (3, .int p2)]) hx hb dX10_fewest_8 hl (by decide) rfl (fun ls hl => ?_)
  refine lv_aloadN hx hb dX10_fewest_10 (lv_at hl 0 rfl) ?_
  refine lv_ifnullN (tgt := 23) hx hb dX10_fewest_12 (by decide) ?_
  refine lv_iconst (v := -1) hx hb dX10_fewest_23 (by decide) ?_
  exact q_iret C h hr (⟨rfl, fun q hq => rfl⟩) (Nat.le_of_ble_eq_true rfl) (Nat.le_of_ble_eq_true rfl) dX10_fewest_24
set_option maxRecDepth 100000 in
set_option maxHeartbeats 4000000 in
theorem c_X10_period (l : Launch) (D : va_G) (G : Nat → Nat) (b0 : Nat) (f : hM) (bm : Nat) (X : Nat → Nat) (hX : xw G f X) (hB : ∀ i, i < 20 → X i < bm) (p0 : Int32) : mI l yX10_period cX10_period 5 (.int) { frames := 2, cells := 0, slots := 0, locals := 43 } D G b0 f [.ref (X 0), .int p0] (fun r f1 => (-1 : Int32) = r ∧ ∀ q, bm ≤ q → f1 q = f q) := by
  refine met_of (own := RX10) (by decide) rfl (Nat.le_of_ble_eq_true rfl) ?_
  intro p e s m below meth c ls C hr hini hl h
  have hl : lv_has ls 5 [(0, .ref (X 0)), (1, .int p0)] := hl
  obtain ⟨hx, hb, hml, hown, hts, hE0, hlk⟩ := id C
  obtain ⟨kx0, kx1, kx2, kx3, kx4, kx5, kx6, kx7, kx8, kx9⟩ := hX
  refine lv_aload_n hx hb dX10_period_0 rfl (lv_at hl 0 rfl) ?_
  refine q_get C h kx0 fl_X10_19 (v := .ref (X 2)) rfl dX10_period_1 ?_
  refine lv_iload_n hx hb dX10_period_4 rfl (lv_at hl 1 rfl) ?_
  refine k_q (r_V C h hl (As := [.int p0]) (rest := []) (c_X0_find l D G b0 f X ⟨kx0, kx1, kx2, kx3, kx4, kx5, kx6, kx7, kx8, kx9⟩ p0) kx2 (Cn := RX0) (T := TX0) (N := 6) rfl rfl mk_X0_find w_594 w_595 w_596 w_597 ⟨Nat.le_of_ble_eq_true rfl, Nat.le_of_ble_eq_true rfl⟩ rfl (Nat.le_of_ble_eq_true rfl) ⟨Nat.le_of_ble_eq_true rfl, Nat.le_of_ble_eq_true rfl⟩ rfl dX10_period_5) h (fun r_134 f_135 H locs p_136 h => ?_)
  obtain ⟨rfl, rfl⟩ := p_136
  refine lv_astore_nN (lv' := [(2, .null), (0, .ref (X 0)), (1, .int p0)]) hx hb dX10_period_8 rfl hl (by decide) rfl (fun ls hl => ?_)
  refine lv_aload_nN hx hb dX10_period_9 rfl (lv_at hl 0 rfl) ?_
  refine lv_ifnonnullN hx hb dX10_period_10 ?_
  refine lv_iconst (v := -1) hx hb dX10_period_13 (by decide) ?_
  exact q_iret C h hr (⟨rfl, fun q hq => rfl⟩) (Nat.le_of_ble_eq_true rfl) (Nat.le_of_ble_eq_true rfl) dX10_period_14
set_option maxRecDepth 100000 in
set_option maxHeartbeats 4000000 in
theorem c_X10_meet (l : Launch) (D : va_G) (G : Nat → Nat) (b0 : Nat) (f : hM) (bm : Nat) (X : Nat → Nat) (hX : xw G f X) (hB : ∀ i, i < 20 → X i < bm) (p0 : Int32) (p1 : Int32) (p2 : Int32) : mI l yX10_meet cX10_meet 6 (.int) { frames := 2, cells := 0, slots := 0, locals := 43 } D G b0 f [.ref (X 0), .int p0, .int p1, .int p2] (fun r f1 => (-1 : Int32) = r ∧ ∀ q, bm ≤ q → f1 q = f q) := by
  refine met_of (own := RX10) (by decide) rfl (Nat.le_of_ble_eq_true rfl) ?_
  intro p e s m below meth c ls C hr hini hl h
  have hl : lv_has ls 6 [(0, .ref (X 0)), (1, .int p0), (2, .int p1), (3, .int p2)] := hl
  obtain ⟨hx, hb, hml, hown, hts, hE0, hlk⟩ := id C
  obtain ⟨kx0, kx1, kx2, kx3, kx4, kx5, kx6, kx7, kx8, kx9⟩ := hX
  refine lv_aload_n hx hb dX10_meet_0 rfl (lv_at hl 0 rfl) ?_
  refine q_get C h kx0 fl_X10_19 (v := .ref (X 2)) rfl dX10_meet_1 ?_
  refine lv_iload_n hx hb dX10_meet_4 rfl (lv_at hl 1 rfl) ?_
  refine k_q (r_V C h hl (As := [.int p0]) (rest := []) (c_X0_find l D G b0 f X ⟨kx0, kx1, kx2, kx3, kx4, kx5, kx6, kx7, kx8, kx9⟩ p0) kx2 (Cn := RX0) (T := TX0) (N := 6) rfl rfl mk_X0_find w_594 w_595 w_596 w_597 ⟨Nat.le_of_ble_eq_true rfl, Nat.le_of_ble_eq_true rfl⟩ rfl (Nat.le_of_ble_eq_true rfl) ⟨Nat.le_of_ble_eq_true rfl, Nat.le_of_ble_eq_true rfl⟩ rfl dX10_meet_5) h (fun r_137 f_138 H locs p_139 h => ?_)
  obtain ⟨rfl, rfl⟩ := p_139
  refine lv_astoreN (lv' := [(4, .null), (0, .ref (X 0)), (1, .int p0), (2, .int p1), (3, .int p2)]) hx hb dX10_meet_8 hl (by decide) rfl (fun ls hl => ?_)
  refine lv_aload_n hx hb dX10_meet_10 rfl (lv_at hl 1 rfl) ?_
  refine q_get C h kx0 fl_X10_19 (v := .ref (X 2)) rfl dX10_meet_11 ?_
  refine lv_iload_n hx hb dX10_meet_14 rfl (lv_at hl 3 rfl) ?_
  refine k_q (r_V C h hl (As := [.int p1]) (rest := []) (c_X0_find l D G b0 f X ⟨kx0, kx1, kx2, kx3, kx4, kx5, kx6, kx7, kx8, kx9⟩ p1) kx2 (Cn := RX0) (T := TX0) (N := 6) rfl rfl mk_X0_find w_594 w_595 w_596 w_597 ⟨Nat.le_of_ble_eq_true rfl, Nat.le_of_ble_eq_true rfl⟩ rfl (Nat.le_of_ble_eq_true rfl) ⟨Nat.le_of_ble_eq_true rfl, Nat.le_of_ble_eq_true rfl⟩ rfl dX10_meet_15) h (fun r_140 f_141 H locs p_142 h => ?_)
  obtain ⟨rfl, rfl⟩ := p_142
  refine lv_astoreN (lv' := [(5, .null), (4, .null), (0, .ref (X 0)), (1, .int p0), (2, .int p1), (3, .int p2)]) hx hb dX10_meet_18 hl (by decide) rfl (fun ls hl => ?_)
  refine lv_aloadN hx hb dX10_meet_20 (lv_at hl 1 rfl) ?_
  refine lv_ifnullN (tgt := 37) hx hb dX10_meet_22 (by decide) ?_
  refine lv_iconst (v := -1) hx hb dX10_meet_37 (by decide) ?_
  exact q_iret C h hr (⟨rfl, fun q hq => rfl⟩) (Nat.le_of_ble_eq_true rfl) (Nat.le_of_ble_eq_true rfl) dX10_meet_38
set_option maxRecDepth 100000 in
set_option maxHeartbeats 4000000 in
theorem c_X10_kernel (l : Launch) (D : va_G) (G : Nat → Nat) (b0 : Nat) (f : hM) (bm : Nat) (X : Nat → Nat) (hX : xw G f X) (hB : ∀ i, i < 20 → X i < bm) (p0 : Int32) (p1 : Int32) (p2 : Int32) : mI l yX10_kernel cX10_kernel 5 (.int) { frames := 2, cells := 0, slots := 0, locals := 43 } D G b0 f [.ref (X 0), .int p0, .int p1, .int p2] (fun r f1 => (-1 : Int32) = r ∧ ∀ q, bm ≤ q → f1 q = f q) := by
  refine met_of (own := RX10) (by decide) rfl (Nat.le_of_ble_eq_true rfl) ?_
  intro p e s m below meth c ls C hr hini hl h
  have hl : lv_has ls 5 [(0, .ref (X 0)), (1, .int p0), (2, .int p1), (3, .int p2)] := hl
  obtain ⟨hx, hb, hml, hown, hts, hE0, hlk⟩ := id C
  obtain ⟨kx0, kx1, kx2, kx3, kx4, kx5, kx6, kx7, kx8, kx9⟩ := hX
  refine lv_aload_n hx hb dX10_kernel_0 rfl (lv_at hl 0 rfl) ?_
  refine q_get C h kx0 fl_X10_19 (v := .ref (X 2)) rfl dX10_kernel_1 ?_
  refine lv_iload_n hx hb dX10_kernel_4 rfl (lv_at hl 1 rfl) ?_
  refine k_q (r_V C h hl (As := [.int p0]) (rest := []) (c_X0_find l D G b0 f X ⟨kx0, kx1, kx2, kx3, kx4, kx5, kx6, kx7, kx8, kx9⟩ p0) kx2 (Cn := RX0) (T := TX0) (N := 6) rfl rfl mk_X0_find w_594 w_595 w_596 w_597 ⟨Nat.le_of_ble_eq_true rfl, Nat.le_of_ble_eq_true rfl⟩ rfl (Nat.le_of_ble_eq_true rfl) ⟨Nat.le_of_ble_eq_true rfl, Nat.le_of_ble_eq_true rfl⟩ rfl dX10_kernel_5) h (fun r_143 f_144 H locs p_145 h => ?_)
  obtain ⟨rfl, rfl⟩ := p_145
  refine lv_astoreN (lv' := [(4, .null), (0, .ref (X 0)), (1, .int p0), (2, .int p1), (3, .int p2)]) hx hb dX10_kernel_8 hl (by decide) rfl (fun ls hl => ?_)
  refine lv_aloadN hx hb dX10_kernel_10 (lv_at hl 0 rfl) ?_
  refine lv_ifnullN (tgt := 29) hx hb dX10_kernel_12 (by decide) ?_
  refine lv_iconst (v := -1) hx hb dX10_kernel_29 (by decide) ?_
  exact q_iret C h hr (⟨rfl, fun q hq => rfl⟩) (Nat.le_of_ble_eq_true rfl) (Nat.le_of_ble_eq_true rfl) dX10_kernel_30
set_option maxRecDepth 100000 in
set_option maxHeartbeats 4000000 in
theorem c_X10_turned (l : Launch) (D : va_G) (G : Nat → Nat) (b0 : Nat) (f : hM) (bm : Nat) (X : Nat → Nat) (hX : xw G f X) (hB : ∀ i, i < 20 → X i < bm) (p0 : Int32) (p1 : Int32) (p2 : Int32) (p3 : Int32) : mI l yX10_turned cX10_turned 6 (.int) { frames := 2, cells := 0, slots := 0, locals := 43 } D G b0 f [.ref (X 0), .int p0, .int p1, .int p2, .int p3] (fun r f1 => (-1 : Int32) = r ∧ ∀ q, bm ≤ q → f1 q = f q) := by
  refine met_of (own := RX10) (by decide) rfl (Nat.le_of_ble_eq_true rfl) ?_
  intro p e s m below meth c ls C hr hini hl h
  have hl : lv_has ls 6 [(0, .ref (X 0)), (1, .int p0), (2, .int p1), (3, .int p2), (4, .int p3)] := hl
  obtain ⟨hx, hb, hml, hown, hts, hE0, hlk⟩ := id C
  obtain ⟨kx0, kx1, kx2, kx3, kx4, kx5, kx6, kx7, kx8, kx9⟩ := hX
  refine lv_aload_n hx hb dX10_turned_0 rfl (lv_at hl 0 rfl) ?_
  refine q_get C h kx0 fl_X10_19 (v := .ref (X 2)) rfl dX10_turned_1 ?_
  refine lv_iload_n hx hb dX10_turned_4 rfl (lv_at hl 1 rfl) ?_
  refine k_q (r_V C h hl (As := [.int p0]) (rest := []) (c_X0_find l D G b0 f X ⟨kx0, kx1, kx2, kx3, kx4, kx5, kx6, kx7, kx8, kx9⟩ p0) kx2 (Cn := RX0) (T := TX0) (N := 6) rfl rfl mk_X0_find w_594 w_595 w_596 w_597 ⟨Nat.le_of_ble_eq_true rfl, Nat.le_of_ble_eq_true rfl⟩ rfl (Nat.le_of_ble_eq_true rfl) ⟨Nat.le_of_ble_eq_true rfl, Nat.le_of_ble_eq_true rfl⟩ rfl dX10_turned_5) h (fun r_146 f_147 H locs p_148 h => ?_)
  obtain ⟨rfl, rfl⟩ := p_148
  refine lv_astoreN (lv' := [(5, .null), (0, .ref (X 0)), (1, .int p0), (2, .int p1), (3, .int p2), (4, .int p3)]) hx hb dX10_turned_8 hl (by decide) rfl (fun ls hl => ?_)
  refine lv_aloadN hx hb dX10_turned_10 (lv_at hl 0 rfl) ?_
  refine lv_ifnullN (tgt := 39) hx hb dX10_turned_12 (by decide) ?_
  refine lv_iconst (v := -1) hx hb dX10_turned_39 (by decide) ?_
  exact q_iret C h hr (⟨rfl, fun q hq => rfl⟩) (Nat.le_of_ble_eq_true rfl) (Nat.le_of_ble_eq_true rfl) dX10_turned_40
set_option maxRecDepth 100000 in
set_option maxHeartbeats 4000000 in
theorem c_X10_orbit (l : Launch) (D : va_G) (G : Nat → Nat) (b0 : Nat) (f : hM) (bm : Nat) (X : Nat → Nat) (hX : xw G f X) (hB : ∀ i, i < 20 → X i < bm) (p0 : Int32) (p1 : Int32) (p2 : Int32) (p3 : Int32) (p4 : Int32) : mI l yX10_orbit cX10_orbit 9 (.int) { frames := 2, cells := 0, slots := 0, locals := 43 } D G b0 f [.ref (X 0), .int p0, .int p1, .int p2, .int p3, .int p4] (fun r f1 => (-2 : Int32) = r ∧ ∀ q, bm ≤ q → f1 q = f q) := by
  refine met_of (own := RX10) (by decide) rfl (Nat.le_of_ble_eq_true rfl) ?_
  intro p e s m below meth c ls C hr hini hl h
  have hl : lv_has ls 9 [(0, .ref (X 0)), (1, .int p0), (2, .int p1), (3, .int p2), (4, .int p3), (5, .int p4)] := hl
  obtain ⟨hx, hb, hml, hown, hts, hE0, hlk⟩ := id C
  obtain ⟨kx0, kx1, kx2, kx3, kx4, kx5, kx6, kx7, kx8, kx9⟩ := hX
  refine lv_aload_n hx hb dX10_orbit_0 rfl (lv_at hl 0 rfl) ?_
  refine q_get C h kx0 fl_X10_19 (v := .ref (X 2)) rfl dX10_orbit_1 ?_
  refine lv_iload_n hx hb dX10_orbit_4 rfl (lv_at hl 1 rfl) ?_
  refine k_q (r_V C h hl (As := [.int p0]) (rest := []) (c_X0_find l D G b0 f X ⟨kx0, kx1, kx2, kx3, kx4, kx5, kx6, kx7, kx8, kx9⟩ p0) kx2 (Cn := RX0) (T := TX0) (N := 6) rfl rfl mk_X0_find w_594 w_595 w_596 w_597 ⟨Nat.le_of_ble_eq_true rfl, Nat.le_of_ble_eq_true rfl⟩ rfl (Nat.le_of_ble_eq_true rfl) ⟨Nat.le_of_ble_eq_true rfl, Nat.le_of_ble_eq_true rfl⟩ rfl dX10_orbit_5) h (fun r_149 f_150 H locs p_151 h => ?_)
  obtain ⟨rfl, rfl⟩ := p_151
  refine lv_astoreN (lv' := [(6, .null), (0, .ref (X 0)), (1, .int p0), (2, .int p1), (3, .int p2), (4, .int p3), (5, .int p4)]) hx hb dX10_orbit_8 hl (by decide) rfl (fun ls hl => ?_)
  refine lv_iload hx hb dX10_orbit_10 (lv_at hl 5 rfl) ?_
  refine lv_iconst (v := -1) hx hb dX10_orbit_12 (by decide) ?_
  refine lv_icmp_eq (tgt := 26) hx hb dX10_orbit_13 (by decide) (fun c_152 => ?_) (fun c_152 => ?_)
  · refine lv_iconst (v := 1) hx hb dX10_orbit_26 (by decide) ?_
    refine lv_goto (tgt := 31) hx hb dX10_orbit_27 (by decide) ?_
    refine lv_istore (lv' := [(7, .int 1), (6, .null), (0, .ref (X 0)), (1, .int p0), (2, .int p1), (3, .int p2), (4, .int p3), (5, .int p4)]) hx hb dX10_orbit_31 hl (by decide) rfl (fun ls hl => ?_)
    refine lv_aloadN hx hb dX10_orbit_33 (lv_at hl 1 rfl) ?_
    refine lv_ifnullN (tgt := 57) hx hb dX10_orbit_35 (by decide) ?_
    refine lv_bipush (v := -2) hx hb dX10_orbit_57 (by decide) ?_
    exact q_iret C h hr (⟨rfl, fun q hq => rfl⟩) (Nat.le_of_ble_eq_true rfl) (Nat.le_of_ble_eq_true rfl) dX10_orbit_59
  · refine lv_iload hx hb dX10_orbit_16 (lv_at hl 6 rfl) ?_
    refine lv_iconst (v := 0) hx hb dX10_orbit_18 (by decide) ?_
    refine lv_iconst (v := 1) hx hb dX10_orbit_19 (by decide) ?_
    refine k_i (r_S C h hl (As := [.int p4, .int 0, .int 1]) (rest := []) (c_X10_within l D G b0 f  p4 0 1) mk_X10_within w_425 w_426 w_427 ⟨Nat.le_of_ble_eq_true rfl, Nat.le_of_ble_eq_true rfl⟩ rfl (Nat.le_of_ble_eq_true rfl) ⟨Nat.le_of_ble_eq_true rfl, Nat.le_of_ble_eq_true rfl⟩ rfl dX10_orbit_20) h (fun r_153 f_154 H locs p_155 h => ?_)
    obtain ⟨e_, rfl⟩ := p_155
    subst e_
    refine lv_if_eq (tgt := 30) hx hb dX10_orbit_23 (by decide) (fun c_156 => ?_) (fun c_156 => ?_)
    · refine lv_iconst (v := 0) hx hb dX10_orbit_30 (by decide) ?_
      refine lv_istore (lv' := [(7, .int 0), (6, .null), (0, .ref (X 0)), (1, .int p0), (2, .int p1), (3, .int p2), (4, .int p3), (5, .int p4)]) hx hb dX10_orbit_31 hl (by decide) rfl (fun ls hl => ?_)
      refine lv_aloadN hx hb dX10_orbit_33 (lv_at hl 1 rfl) ?_
      refine lv_ifnullN (tgt := 57) hx hb dX10_orbit_35 (by decide) ?_
      refine lv_bipush (v := -2) hx hb dX10_orbit_57 (by decide) ?_
      exact q_iret C h hr (⟨rfl, fun q hq => rfl⟩) (Nat.le_of_ble_eq_true rfl) (Nat.le_of_ble_eq_true rfl) dX10_orbit_59
    · refine lv_iconst (v := 1) hx hb dX10_orbit_26 (by decide) ?_
      refine lv_goto (tgt := 31) hx hb dX10_orbit_27 (by decide) ?_
      refine lv_istore (lv' := [(7, .int 1), (6, .null), (0, .ref (X 0)), (1, .int p0), (2, .int p1), (3, .int p2), (4, .int p3), (5, .int p4)]) hx hb dX10_orbit_31 hl (by decide) rfl (fun ls hl => ?_)
      refine lv_aloadN hx hb dX10_orbit_33 (lv_at hl 1 rfl) ?_
      refine lv_ifnullN (tgt := 57) hx hb dX10_orbit_35 (by decide) ?_
      refine lv_bipush (v := -2) hx hb dX10_orbit_57 (by decide) ?_
      exact q_iret C h hr (⟨rfl, fun q hq => rfl⟩) (Nat.le_of_ble_eq_true rfl) (Nat.le_of_ble_eq_true rfl) dX10_orbit_59
set_option maxRecDepth 100000 in
set_option maxHeartbeats 4000000 in
theorem c_X10_group (l : Launch) (D : va_G) (G : Nat → Nat) (b0 : Nat) (f : hM) (bm : Nat) (X : Nat → Nat) (hX : xw G f X) (hB : ∀ i, i < 20 → X i < bm) (p0 : Int32) : mI l yX10_group cX10_group 3 (.int) { frames := 2, cells := 0, slots := 0, locals := 43 } D G b0 f [.ref (X 0), .int p0] (fun r f1 => (-2 : Int32) = r ∧ ∀ q, bm ≤ q → f1 q = f q) := by
  refine met_of (own := RX10) (by decide) rfl (Nat.le_of_ble_eq_true rfl) ?_
  intro p e s m below meth c ls C hr hini hl h
  have hl : lv_has ls 3 [(0, .ref (X 0)), (1, .int p0)] := hl
  obtain ⟨hx, hb, hml, hown, hts, hE0, hlk⟩ := id C
  obtain ⟨kx0, kx1, kx2, kx3, kx4, kx5, kx6, kx7, kx8, kx9⟩ := hX
  refine lv_aload_n hx hb dX10_group_0 rfl (lv_at hl 0 rfl) ?_
  refine q_get C h kx0 fl_X10_19 (v := .ref (X 2)) rfl dX10_group_1 ?_
  refine lv_iload_n hx hb dX10_group_4 rfl (lv_at hl 1 rfl) ?_
  refine k_q (r_V C h hl (As := [.int p0]) (rest := []) (c_X0_find l D G b0 f X ⟨kx0, kx1, kx2, kx3, kx4, kx5, kx6, kx7, kx8, kx9⟩ p0) kx2 (Cn := RX0) (T := TX0) (N := 6) rfl rfl mk_X0_find w_594 w_595 w_596 w_597 ⟨Nat.le_of_ble_eq_true rfl, Nat.le_of_ble_eq_true rfl⟩ rfl (Nat.le_of_ble_eq_true rfl) ⟨Nat.le_of_ble_eq_true rfl, Nat.le_of_ble_eq_true rfl⟩ rfl dX10_group_5) h (fun r_157 f_158 H locs p_159 h => ?_)
  obtain ⟨rfl, rfl⟩ := p_159
  refine lv_astore_nN (lv' := [(2, .null), (0, .ref (X 0)), (1, .int p0)]) hx hb dX10_group_8 rfl hl (by decide) rfl (fun ls hl => ?_)
  refine lv_aload_nN hx hb dX10_group_9 rfl (lv_at hl 0 rfl) ?_
  refine lv_ifnonnullN hx hb dX10_group_10 ?_
  refine lv_bipush (v := -2) hx hb dX10_group_13 (by decide) ?_
  refine lv_goto (tgt := 26) hx hb dX10_group_15 (by decide) ?_
  exact q_iret C h hr (⟨rfl, fun q hq => rfl⟩) (Nat.le_of_ble_eq_true rfl) (Nat.le_of_ble_eq_true rfl) dX10_group_26
set_option maxRecDepth 100000 in
set_option maxHeartbeats 4000000 in
theorem c_X10_sum (l : Launch) (D : va_G) (G : Nat → Nat) (b0 : Nat) (f : hM) (bm : Nat) (X : Nat → Nat) (hX : xw G f X) (hB : ∀ i, i < 20 → X i < bm) (p0 : Int32) (p1 : Int32) (p2 : Int32) : mI l yX10_sum cX10_sum 6 (.int) { frames := 2, cells := 0, slots := 0, locals := 43 } D G b0 f [.ref (X 0), .int p0, .int p1, .int p2] (fun r f1 => (-2 : Int32) = r ∧ ∀ q, bm ≤ q → f1 q = f q) := by
  refine met_of (own := RX10) (by decide) rfl (Nat.le_of_ble_eq_true rfl) ?_
  intro p e s m below meth c ls C hr hini hl h
  have hl : lv_has ls 6 [(0, .ref (X 0)), (1, .int p0), (2, .int p1), (3, .int p2)] := hl
  obtain ⟨hx, hb, hml, hown, hts, hE0, hlk⟩ := id C
  obtain ⟨kx0, kx1, kx2, kx3, kx4, kx5, kx6, kx7, kx8, kx9⟩ := hX
  refine lv_aload_n hx hb dX10_sum_0 rfl (lv_at hl 0 rfl) ?_
  refine q_get C h kx0 fl_X10_19 (v := .ref (X 2)) rfl dX10_sum_1 ?_
  refine lv_iload_n hx hb dX10_sum_4 rfl (lv_at hl 1 rfl) ?_
  refine k_q (r_V C h hl (As := [.int p0]) (rest := []) (c_X0_find l D G b0 f X ⟨kx0, kx1, kx2, kx3, kx4, kx5, kx6, kx7, kx8, kx9⟩ p0) kx2 (Cn := RX0) (T := TX0) (N := 6) rfl rfl mk_X0_find w_594 w_595 w_596 w_597 ⟨Nat.le_of_ble_eq_true rfl, Nat.le_of_ble_eq_true rfl⟩ rfl (Nat.le_of_ble_eq_true rfl) ⟨Nat.le_of_ble_eq_true rfl, Nat.le_of_ble_eq_true rfl⟩ rfl dX10_sum_5) h (fun r_160 f_161 H locs p_162 h => ?_)
  obtain ⟨rfl, rfl⟩ := p_162
  refine lv_astoreN (lv' := [(4, .null), (0, .ref (X 0)), (1, .int p0), (2, .int p1), (3, .int p2)]) hx hb dX10_sum_8 hl (by decide) rfl (fun ls hl => ?_)
  refine lv_aloadN hx hb dX10_sum_10 (lv_at hl 0 rfl) ?_
  refine lv_ifnullN (tgt := 29) hx hb dX10_sum_12 (by decide) ?_
  refine lv_bipush (v := -2) hx hb dX10_sum_29 (by decide) ?_
  exact q_iret C h hr (⟨rfl, fun q hq => rfl⟩) (Nat.le_of_ble_eq_true rfl) (Nat.le_of_ble_eq_true rfl) dX10_sum_31
set_option maxRecDepth 100000 in
set_option maxHeartbeats 4000000 in
theorem c_X10_noUse (l : Launch) (D : va_G) (G : Nat → Nat) (b0 : Nat) (f : hM) (bm : Nat) (X : Nat → Nat) (hX : xw G f X) (hB : ∀ i, i < 20 → X i < bm) (p0 : Int32) : mI l yX10_noUse cX10_noUse 5 (.int) { frames := 2, cells := 0, slots := 0, locals := 43 } D G b0 f [.ref (X 0), .int p0] (fun r f1 => (-1 : Int32) = r ∧ ∀ q, bm ≤ q → f1 q = f q) := by
  refine met_of (own := RX10) (by decide) rfl (Nat.le_of_ble_eq_true rfl) ?_
  intro p e s m below meth c ls C hr hini hl h
  have hl : lv_has ls 5 [(0, .ref (X 0)), (1, .int p0)] := hl
  obtain ⟨hx, hb, hml, hown, hts, hE0, hlk⟩ := id C
  obtain ⟨kx0, kx1, kx2, kx3, kx4, kx5, kx6, kx7, kx8, kx9⟩ := hX
  refine lv_aload_n hx hb dX10_noUse_0 rfl (lv_at hl 0 rfl) ?_
  refine q_get C h kx0 fl_X10_19 (v := .ref (X 2)) rfl dX10_noUse_1 ?_
  refine lv_iload_n hx hb dX10_noUse_4 rfl (lv_at hl 1 rfl) ?_
  refine k_q (r_V C h hl (As := [.int p0]) (rest := []) (c_X0_find l D G b0 f X ⟨kx0, kx1, kx2, kx3, kx4, kx5, kx6, kx7, kx8, kx9⟩ p0) kx2 (Cn := RX0) (T := TX0) (N := 6) rfl rfl mk_X0_find w_594 w_595 w_596 w_597 ⟨Nat.le_of_ble_eq_true rfl, Nat.le_of_ble_eq_true rfl⟩ rfl (Nat.le_of_ble_eq_true rfl) ⟨Nat.le_of_ble_eq_true rfl, Nat.le_of_ble_eq_true rfl⟩ rfl dX10_noUse_5) h (fun r_163 f_164 H locs p_165 h => ?_)
  obtain ⟨rfl, rfl⟩ := p_165
  refine lv_astore_nN (lv' := [(2, .null), (0, .ref (X 0)), (1, .int p0)]) hx hb dX10_noUse_8 rfl hl (by decide) rfl (fun ls hl => ?_)
  refine lv_aload_nN hx hb dX10_noUse_9 rfl (lv_at hl 0 rfl) ?_
  refine lv_ifnonnullN hx hb dX10_noUse_10 ?_
  refine lv_iconst (v := -1) hx hb dX10_noUse_13 (by decide) ?_
  exact q_iret C h hr (⟨rfl, fun q hq => rfl⟩) (Nat.le_of_ble_eq_true rfl) (Nat.le_of_ble_eq_true rfl) dX10_noUse_14
set_option maxRecDepth 100000 in
set_option maxHeartbeats 4000000 in
theorem c_X10_enough (l : Launch) (D : va_G) (G : Nat → Nat) (b0 : Nat) (f : hM) (bm : Nat) (X : Nat → Nat) (hX : xw G f X) (hB : ∀ i, i < 20 → X i < bm) (p0 : Int32) : mI l yX10_enough cX10_enough 3 (.int) { frames := 2, cells := 0, slots := 0, locals := 43 } D G b0 f [.ref (X 0), .int p0] (fun r f1 => (-1 : Int32) = r ∧ ∀ q, bm ≤ q → f1 q = f q) := by
  refine met_of (own := RX10) (by decide) rfl (Nat.le_of_ble_eq_true rfl) ?_
  intro p e s m below meth c ls C hr hini hl h
  have hl : lv_has ls 3 [(0, .ref (X 0)), (1, .int p0)] := hl
  obtain ⟨hx, hb, hml, hown, hts, hE0, hlk⟩ := id C
  obtain ⟨kx0, kx1, kx2, kx3, kx4, kx5, kx6, kx7, kx8, kx9⟩ := hX
  refine lv_aload_n hx hb dX10_enough_0 rfl (lv_at hl 0 rfl) ?_
  refine q_get C h kx0 fl_X10_19 (v := .ref (X 2)) rfl dX10_enough_1 ?_
  refine lv_iload_n hx hb dX10_enough_4 rfl (lv_at hl 1 rfl) ?_
  refine k_q (r_V C h hl (As := [.int p0]) (rest := []) (c_X0_find l D G b0 f X ⟨kx0, kx1, kx2, kx3, kx4, kx5, kx6, kx7, kx8, kx9⟩ p0) kx2 (Cn := RX0) (T := TX0) (N := 6) rfl rfl mk_X0_find w_594 w_595 w_596 w_597 ⟨Nat.le_of_ble_eq_true rfl, Nat.le_of_ble_eq_true rfl⟩ rfl (Nat.le_of_ble_eq_true rfl) ⟨Nat.le_of_ble_eq_true rfl, Nat.le_of_ble_eq_true rfl⟩ rfl dX10_enough_5) h (fun r_166 f_167 H locs p_168 h => ?_)
  obtain ⟨rfl, rfl⟩ := p_168
  refine lv_astore_nN (lv' := [(2, .null), (0, .ref (X 0)), (1, .int p0)]) hx hb dX10_enough_8 rfl hl (by decide) rfl (fun ls hl => ?_)
  refine lv_aload_nN hx hb dX10_enough_9 rfl (lv_at hl 0 rfl) ?_
  refine lv_ifnonnullN hx hb dX10_enough_10 ?_
  refine lv_iconst (v := -1) hx hb dX10_enough_13 (by decide) ?_
  exact q_iret C h hr (⟨rfl, fun q hq => rfl⟩) (Nat.le_of_ble_eq_true rfl) (Nat.le_of_ble_eq_true rfl) dX10_enough_14
set_option maxRecDepth 100000 in
set_option maxHeartbeats 4000000 in
theorem c_X10_alike (l : Launch) (D : va_G) (G : Nat → Nat) (b0 : Nat) (f : hM) (bm : Nat) (X : Nat → Nat) (hX : xw G f X) (hB : ∀ i, i < 20 → X i < bm) (p0 : Int32) : mI l yX10_alike cX10_alike 5 (.int) { frames := 2, cells := 0, slots := 0, locals := 43 } D G b0 f [.ref (X 0), .int p0] (fun r f1 => (-1 : Int32) = r ∧ ∀ q, bm ≤ q → f1 q = f q) := by
  refine met_of (own := RX10) (by decide) rfl (Nat.le_of_ble_eq_true rfl) ?_
  intro p e s m below meth c ls C hr hini hl h
  have hl : lv_has ls 5 [(0, .ref (X 0)), (1, .int p0)] := hl
  obtain ⟨hx, hb, hml, hown, hts, hE0, hlk⟩ := id C
  obtain ⟨kx0, kx1, kx2, kx3, kx4, kx5, kx6, kx7, kx8, kx9⟩ := hX
  refine lv_aload_n hx hb dX10_alike_0 rfl (lv_at hl 0 rfl) ?_
  refine q_get C h kx0 fl_X10_19 (v := .ref (X 2)) rfl dX10_alike_1 ?_
  refine lv_iload_n hx hb dX10_alike_4 rfl (lv_at hl 1 rfl) ?_
  refine k_q (r_V C h hl (As := [.int p0]) (rest := []) (c_X0_find l D G b0 f X ⟨kx0, kx1, kx2, kx3, kx4, kx5, kx6, kx7, kx8, kx9⟩ p0) kx2 (Cn := RX0) (T := TX0) (N := 6) rfl rfl mk_X0_find w_594 w_595 w_596 w_597 ⟨Nat.le_of_ble_eq_true rfl, Nat.le_of_ble_eq_true rfl⟩ rfl (Nat.le_of_ble_eq_true rfl) ⟨Nat.le_of_ble_eq_true rfl, Nat.le_of_ble_eq_true rfl⟩ rfl dX10_alike_5) h (fun r_169 f_170 H locs p_171 h => ?_)
  obtain ⟨rfl, rfl⟩ := p_171
  refine lv_astore_nN (lv' := [(2, .null), (0, .ref (X 0)), (1, .int p0)]) hx hb dX10_alike_8 rfl hl (by decide) rfl (fun ls hl => ?_)
  refine lv_aload_nN hx hb dX10_alike_9 rfl (lv_at hl 0 rfl) ?_
  refine lv_ifnonnullN hx hb dX10_alike_10 ?_
  refine lv_iconst (v := -1) hx hb dX10_alike_13 (by decide) ?_
  exact q_iret C h hr (⟨rfl, fun q hq => rfl⟩) (Nat.le_of_ble_eq_true rfl) (Nat.le_of_ble_eq_true rfl) dX10_alike_14
set_option maxRecDepth 100000 in
set_option maxHeartbeats 4000000 in
theorem c_X10_recurrence (l : Launch) (D : va_G) (G : Nat → Nat) (b0 : Nat) (f : hM) (bm : Nat) (X : Nat → Nat) (hX : xw G f X) (hB : ∀ i, i < 20 → X i < bm) (p0 : Int32) (p1 : Int32) (p2 : Int32) (p3 : Int32) (p4 : Int32) (p5 : Int32) : mI l yX10_recurrence cX10_recurrence 8 (.int) { frames := 3, cells := 0, slots := 0, locals := 69 } D G b0 f [.ref (X 0), .int p0, .int p1, .int p2, .int p3, .int p4, .int p5] (fun r f1 => (-1000000 : Int32) = r ∧ ∀ q, bm ≤ q → f1 q = f q) := by
  refine met_of (own := RX10) (by decide) rfl (Nat.le_of_ble_eq_true rfl) ?_
  intro p e s m below meth c ls C hr hini hl h
  have hl : lv_has ls 8 [(0, .ref (X 0)), (1, .int p0), (2, .int p1), (3, .int p2), (4, .int p3), (5, .int p4), (6, .int p5)] := hl
  obtain ⟨hx, hb, hml, hown, hts, hE0, hlk⟩ := id C
  obtain ⟨kx0, kx1, kx2, kx3, kx4, kx5, kx6, kx7, kx8, kx9⟩ := hX
  refine lv_aload_n hx hb dX10_recurrence_0 rfl (lv_at hl 0 rfl) ?_
  refine lv_iload_n hx hb dX10_recurrence_1 rfl (lv_at hl 1 rfl) ?_
  refine lv_iload_n hx hb dX10_recurrence_2 rfl (lv_at hl 2 rfl) ?_
  refine lv_iconst (v := 0) hx hb dX10_recurrence_3 (by decide) ?_
  refine lv_iload_n hx hb dX10_recurrence_4 rfl (lv_at hl 3 rfl) ?_
  refine lv_iload hx hb dX10_recurrence_5 (lv_at hl 4 rfl) ?_
  refine k_i (r_V C h hl (As := [.int p0, .int p1, .int 0, .int p2, .int p3]) (rest := []) (c_X10_readies l D G b0 f bm X ⟨kx0, kx1, kx2, kx3, kx4, kx5, kx6, kx7, kx8, kx9⟩ hB p0 p1 0 p2 p3) kx0 (Cn := RX10) (T := TX10) (N := 10) rfl rfl mk_X10_readies w_1026 w_1028 w_27 w_1029 ⟨Nat.le_of_ble_eq_true rfl, Nat.le_of_ble_eq_true rfl⟩ rfl (Nat.le_of_ble_eq_true rfl) ⟨Nat.le_of_ble_eq_true rfl, Nat.le_of_ble_eq_true rfl⟩ rfl dX10_recurrence_7) h (fun r_172 f_173 H locs p_174 h => ?_)
  obtain ⟨rfl, p_174⟩ := p_174
  refine lv_istore (lv' := [(7, .int 0), (0, .ref (X 0)), (1, .int p0), (2, .int p1), (3, .int p2), (4, .int p3), (5, .int p4), (6, .int p5)]) hx hb dX10_recurrence_10 hl (by decide) rfl (fun ls hl => ?_)
  refine lv_iload hx hb dX10_recurrence_12 (lv_at hl 0 rfl) ?_
  refine lv_if_eq (tgt := 55) hx hb dX10_recurrence_14 (by decide) (fun c_175 => ?_) (fun c_175 => ?_)
  · refine lv_ldc (v := -1000000) hx hb hown (hts _ w_772) dX10_recurrence_55 ?_
    exact q_iret C h hr (⟨rfl, fun q hq => (p_174 q hq)⟩) (Nat.le_of_ble_eq_true rfl) (Nat.le_of_ble_eq_true rfl) dX10_recurrence_57
  · exact absurd c_175 (by decide)
set_option maxRecDepth 100000 in
set_option maxHeartbeats 4000000 in
theorem c_X10_fails (l : Launch) (D : va_G) (G : Nat → Nat) (b0 : Nat) (f : hM) (bm : Nat) (X : Nat → Nat) (hX : xw G f X) (hB : ∀ i, i < 20 → X i < bm) (p0 : Int32) (p1 : Int32) (p2 : Int32) (p3 : Int32) : mI l yX10_fails cX10_fails 5 (.int) { frames := 3, cells := 0, slots := 0, locals := 69 } D G b0 f [.ref (X 0), .int p0, .int p1, .int p2, .int p3] (fun r f1 => (-1000000 : Int32) = r ∧ ∀ q, bm ≤ q → f1 q = f q) := by
  refine met_of (own := RX10) (by decide) rfl (Nat.le_of_ble_eq_true rfl) ?_
  intro p e s m below meth c ls C hr hini hl h
  have hl : lv_has ls 5 [(0, .ref (X 0)), (1, .int p0), (2, .int p1), (3, .int p2), (4, .int p3)] := hl
  obtain ⟨hx, hb, hml, hown, hts, hE0, hlk⟩ := id C
  obtain ⟨kx0, kx1, kx2, kx3, kx4, kx5, kx6, kx7, kx8, kx9⟩ := hX
  refine lv_aload_n hx hb dX10_fails_0 rfl (lv_at hl 0 rfl) ?_
  refine lv_iload_n hx hb dX10_fails_1 rfl (lv_at hl 1 rfl) ?_
  refine lv_iload_n hx hb dX10_fails_2 rfl (lv_at hl 2 rfl) ?_
  refine lv_iconst (v := 0) hx hb dX10_fails_3 (by decide) ?_
  refine lv_iload_n hx hb dX10_fails_4 rfl (lv_at hl 3 rfl) ?_
  refine lv_iload hx hb dX10_fails_5 (lv_at hl 4 rfl) ?_
  refine k_i (r_V C h hl (As := [.int p0, .int p1, .int 0, .int p2, .int p3]) (rest := []) (c_X10_readies l D G b0 f bm X ⟨kx0, kx1, kx2, kx3, kx4, kx5, kx6, kx7, kx8, kx9⟩ hB p0 p1 0 p2 p3) kx0 (Cn := RX10) (T := TX10) (N := 10) rfl rfl mk_X10_readies w_1026 w_1028 w_27 w_1029 ⟨Nat.le_of_ble_eq_true rfl, Nat.le_of_ble_eq_true rfl⟩ rfl (Nat.le_of_ble_eq_true rfl) ⟨Nat.le_of_ble_eq_true rfl, Nat.le_of_ble_eq_true rfl⟩ rfl dX10_fails_7) h (fun r_176 f_177 H locs p_178 h => ?_)
  obtain ⟨rfl, p_178⟩ := p_178
  refine lv_if_eq (tgt := 26) hx hb dX10_fails_10 (by decide) (fun c_179 => ?_) (fun c_179 => ?_)
  · refine lv_ldc (v := -1000000) hx hb hown (hts _ w_772) dX10_fails_26 ?_
    exact q_iret C h hr (⟨rfl, fun q hq => (p_178 q hq)⟩) (Nat.le_of_ble_eq_true rfl) (Nat.le_of_ble_eq_true rfl) dX10_fails_28
  · exact absurd c_179 (by decide)
set_option maxRecDepth 100000 in
set_option maxHeartbeats 4000000 in
theorem c_X10_equation (l : Launch) (D : va_G) (G : Nat → Nat) (b0 : Nat) (f : hM) (bm : Nat) (X : Nat → Nat) (hX : xw G f X) (hB : ∀ i, i < 20 → X i < bm) (p0 : Int32) (p1 : Int32) (p2 : Int32) (p3 : Int32) (p4 : Int32) (p5 : Int32) : mI l yX10_equation cX10_equation 8 (.int) { frames := 3, cells := 0, slots := 0, locals := 69 } D G b0 f [.ref (X 0), .int p0, .int p1, .int p2, .int p3, .int p4, .int p5] (fun r f1 => (-1000000 : Int32) = r ∧ ∀ q, bm ≤ q → f1 q = f q) := by
  refine met_of (own := RX10) (by decide) rfl (Nat.le_of_ble_eq_true rfl) ?_
  intro p e s m below meth c ls C hr hini hl h
  have hl : lv_has ls 8 [(0, .ref (X 0)), (1, .int p0), (2, .int p1), (3, .int p2), (4, .int p3), (5, .int p4), (6, .int p5)] := hl
  obtain ⟨hx, hb, hml, hown, hts, hE0, hlk⟩ := id C
  obtain ⟨kx0, kx1, kx2, kx3, kx4, kx5, kx6, kx7, kx8, kx9⟩ := hX
  refine lv_aload_n hx hb dX10_equation_0 rfl (lv_at hl 0 rfl) ?_
  refine lv_iload_n hx hb dX10_equation_1 rfl (lv_at hl 1 rfl) ?_
  refine lv_iload_n hx hb dX10_equation_2 rfl (lv_at hl 2 rfl) ?_
  refine lv_iconst (v := 1) hx hb dX10_equation_3 (by decide) ?_
  refine lv_iload_n hx hb dX10_equation_4 rfl (lv_at hl 3 rfl) ?_
  refine lv_iload hx hb dX10_equation_5 (lv_at hl 4 rfl) ?_
  refine k_i (r_V C h hl (As := [.int p0, .int p1, .int 1, .int p2, .int p3]) (rest := []) (c_X10_readies l D G b0 f bm X ⟨kx0, kx1, kx2, kx3, kx4, kx5, kx6, kx7, kx8, kx9⟩ hB p0 p1 1 p2 p3) kx0 (Cn := RX10) (T := TX10) (N := 10) rfl rfl mk_X10_readies w_1026 w_1028 w_27 w_1029 ⟨Nat.le_of_ble_eq_true rfl, Nat.le_of_ble_eq_true rfl⟩ rfl (Nat.le_of_ble_eq_true rfl) ⟨Nat.le_of_ble_eq_true rfl, Nat.le_of_ble_eq_true rfl⟩ rfl dX10_equation_7) h (fun r_180 f_181 H locs p_182 h => ?_)
  obtain ⟨rfl, p_182⟩ := p_182
  refine lv_istore (lv' := [(7, .int 0), (0, .ref (X 0)), (1, .int p0), (2, .int p1), (3, .int p2), (4, .int p3), (5, .int p4), (6, .int p5)]) hx hb dX10_equation_10 hl (by decide) rfl (fun ls hl => ?_)
  refine lv_iload hx hb dX10_equation_12 (lv_at hl 0 rfl) ?_
  refine lv_if_eq (tgt := 55) hx hb dX10_equation_14 (by decide) (fun c_183 => ?_) (fun c_183 => ?_)
  · refine lv_ldc (v := -1000000) hx hb hown (hts _ w_772) dX10_equation_55 ?_
    exact q_iret C h hr (⟨rfl, fun q hq => (p_182 q hq)⟩) (Nat.le_of_ble_eq_true rfl) (Nat.le_of_ble_eq_true rfl) dX10_equation_57
  · exact absurd c_183 (by decide)
set_option maxRecDepth 100000 in
set_option maxHeartbeats 4000000 in
theorem c_X10_breaks (l : Launch) (D : va_G) (G : Nat → Nat) (b0 : Nat) (f : hM) (bm : Nat) (X : Nat → Nat) (hX : xw G f X) (hB : ∀ i, i < 20 → X i < bm) (p0 : Int32) (p1 : Int32) (p2 : Int32) (p3 : Int32) : mI l yX10_breaks cX10_breaks 5 (.int) { frames := 3, cells := 0, slots := 0, locals := 69 } D G b0 f [.ref (X 0), .int p0, .int p1, .int p2, .int p3] (fun r f1 => (-1000000 : Int32) = r ∧ ∀ q, bm ≤ q → f1 q = f q) := by
  refine met_of (own := RX10) (by decide) rfl (Nat.le_of_ble_eq_true rfl) ?_
  intro p e s m below meth c ls C hr hini hl h
  have hl : lv_has ls 5 [(0, .ref (X 0)), (1, .int p0), (2, .int p1), (3, .int p2), (4, .int p3)] := hl
  obtain ⟨hx, hb, hml, hown, hts, hE0, hlk⟩ := id C
  obtain ⟨kx0, kx1, kx2, kx3, kx4, kx5, kx6, kx7, kx8, kx9⟩ := hX
  refine lv_aload_n hx hb dX10_breaks_0 rfl (lv_at hl 0 rfl) ?_
  refine lv_iload_n hx hb dX10_breaks_1 rfl (lv_at hl 1 rfl) ?_
  refine lv_iload_n hx hb dX10_breaks_2 rfl (lv_at hl 2 rfl) ?_
  refine lv_iconst (v := 1) hx hb dX10_breaks_3 (by decide) ?_
  refine lv_iload_n hx hb dX10_breaks_4 rfl (lv_at hl 3 rfl) ?_
  refine lv_iload hx hb dX10_breaks_5 (lv_at hl 4 rfl) ?_
  refine k_i (r_V C h hl (As := [.int p0, .int p1, .int 1, .int p2, .int p3]) (rest := []) (c_X10_readies l D G b0 f bm X ⟨kx0, kx1, kx2, kx3, kx4, kx5, kx6, kx7, kx8, kx9⟩ hB p0 p1 1 p2 p3) kx0 (Cn := RX10) (T := TX10) (N := 10) rfl rfl mk_X10_readies w_1026 w_1028 w_27 w_1029 ⟨Nat.le_of_ble_eq_true rfl, Nat.le_of_ble_eq_true rfl⟩ rfl (Nat.le_of_ble_eq_true rfl) ⟨Nat.le_of_ble_eq_true rfl, Nat.le_of_ble_eq_true rfl⟩ rfl dX10_breaks_7) h (fun r_184 f_185 H locs p_186 h => ?_)
  obtain ⟨rfl, p_186⟩ := p_186
  refine lv_if_eq (tgt := 26) hx hb dX10_breaks_10 (by decide) (fun c_187 => ?_) (fun c_187 => ?_)
  · refine lv_ldc (v := -1000000) hx hb hown (hts _ w_772) dX10_breaks_26 ?_
    exact q_iret C h hr (⟨rfl, fun q hq => (p_186 q hq)⟩) (Nat.le_of_ble_eq_true rfl) (Nat.le_of_ble_eq_true rfl) dX10_breaks_28
  · exact absurd c_187 (by decide)
set_option maxRecDepth 100000 in
set_option maxHeartbeats 4000000 in
theorem c_X10_least (l : Launch) (D : va_G) (G : Nat → Nat) (b0 : Nat) (f : hM) (bm : Nat) (X : Nat → Nat) (hX : xw G f X) (hB : ∀ i, i < 20 → X i < bm) (p0 : Int32) (p1 : Int32) (p2 : Int32) : mI l yX10_least cX10_least 5 (.int) { frames := 2, cells := 0, slots := 0, locals := 43 } D G b0 f [.ref (X 0), .int p0, .int p1, .int p2] (fun r f1 => (-1000000 : Int32) = r ∧ ∀ q, bm ≤ q → f1 q = f q) := by
  refine met_of (own := RX10) (by decide) rfl (Nat.le_of_ble_eq_true rfl) ?_
  intro p e s m below meth c ls C hr hini hl h
  have hl : lv_has ls 5 [(0, .ref (X 0)), (1, .int p0), (2, .int p1), (3, .int p2)] := hl
  obtain ⟨hx, hb, hml, hown, hts, hE0, hlk⟩ := id C
  obtain ⟨kx0, kx1, kx2, kx3, kx4, kx5, kx6, kx7, kx8, kx9⟩ := hX
  refine lv_aload_n hx hb dX10_least_0 rfl (lv_at hl 0 rfl) ?_
  refine q_get C h kx0 fl_X10_19 (v := .ref (X 2)) rfl dX10_least_1 ?_
  refine lv_iload_n hx hb dX10_least_4 rfl (lv_at hl 1 rfl) ?_
  refine k_q (r_V C h hl (As := [.int p0]) (rest := []) (c_X0_find l D G b0 f X ⟨kx0, kx1, kx2, kx3, kx4, kx5, kx6, kx7, kx8, kx9⟩ p0) kx2 (Cn := RX0) (T := TX0) (N := 6) rfl rfl mk_X0_find w_594 w_595 w_596 w_597 ⟨Nat.le_of_ble_eq_true rfl, Nat.le_of_ble_eq_true rfl⟩ rfl (Nat.le_of_ble_eq_true rfl) ⟨Nat.le_of_ble_eq_true rfl, Nat.le_of_ble_eq_true rfl⟩ rfl dX10_least_5) h (fun r_188 f_189 H locs p_190 h => ?_)
  obtain ⟨rfl, rfl⟩ := p_190
  refine lv_astoreN (lv' := [(4, .null), (0, .ref (X 0)), (1, .int p0), (2, .int p1), (3, .int p2)]) hx hb dX10_least_8 hl (by decide) rfl (fun ls hl => ?_)
  refine lv_aloadN hx hb dX10_least_10 (lv_at hl 0 rfl) ?_
  refine lv_ifnullN (tgt := 31) hx hb dX10_least_12 (by decide) ?_
  refine lv_ldc (v := -1000000) hx hb hown (hts _ w_772) dX10_least_31 ?_
  exact q_iret C h hr (⟨rfl, fun q hq => rfl⟩) (Nat.le_of_ble_eq_true rfl) (Nat.le_of_ble_eq_true rfl) dX10_least_33
set_option maxRecDepth 100000 in
set_option maxHeartbeats 4000000 in
theorem c_X10_written (l : Launch) (D : va_G) (G : Nat → Nat) (b0 : Nat) (f : hM) (bm : Nat) (X : Nat → Nat) (hX : xw G f X) (hB : ∀ i, i < 20 → X i < bm) (p0 : Int32) (p1 : Int32) : mI l yX10_written cX10_written 4 (.int) { frames := 2, cells := 0, slots := 0, locals := 43 } D G b0 f [.ref (X 0), .int p0, .int p1] (fun r f1 => (-1 : Int32) = r ∧ ∀ q, bm ≤ q → f1 q = f q) := by
  refine met_of (own := RX10) (by decide) rfl (Nat.le_of_ble_eq_true rfl) ?_
  intro p e s m below meth c ls C hr hini hl h
  have hl : lv_has ls 4 [(0, .ref (X 0)), (1, .int p0), (2, .int p1)] := hl
  obtain ⟨hx, hb, hml, hown, hts, hE0, hlk⟩ := id C
  obtain ⟨kx0, kx1, kx2, kx3, kx4, kx5, kx6, kx7, kx8, kx9⟩ := hX
  refine lv_aload_n hx hb dX10_written_0 rfl (lv_at hl 0 rfl) ?_
  refine q_get C h kx0 fl_X10_19 (v := .ref (X 2)) rfl dX10_written_1 ?_
  refine lv_iload_n hx hb dX10_written_4 rfl (lv_at hl 1 rfl) ?_
  refine k_q (r_V C h hl (As := [.int p0]) (rest := []) (c_X0_find l D G b0 f X ⟨kx0, kx1, kx2, kx3, kx4, kx5, kx6, kx7, kx8, kx9⟩ p0) kx2 (Cn := RX0) (T := TX0) (N := 6) rfl rfl mk_X0_find w_594 w_595 w_596 w_597 ⟨Nat.le_of_ble_eq_true rfl, Nat.le_of_ble_eq_true rfl⟩ rfl (Nat.le_of_ble_eq_true rfl) ⟨Nat.le_of_ble_eq_true rfl, Nat.le_of_ble_eq_true rfl⟩ rfl dX10_written_5) h (fun r_191 f_192 H locs p_193 h => ?_)
  obtain ⟨rfl, rfl⟩ := p_193
  refine lv_astore_nN (lv' := [(3, .null), (0, .ref (X 0)), (1, .int p0), (2, .int p1)]) hx hb dX10_written_8 rfl hl (by decide) rfl (fun ls hl => ?_)
  refine lv_aload_nN hx hb dX10_written_9 rfl (lv_at hl 0 rfl) ?_
  refine lv_ifnonnullN hx hb dX10_written_10 ?_
  refine lv_iconst (v := -1) hx hb dX10_written_13 (by decide) ?_
  exact q_iret C h hr (⟨rfl, fun q hq => rfl⟩) (Nat.le_of_ble_eq_true rfl) (Nat.le_of_ble_eq_true rfl) dX10_written_14
end
section

set_option maxRecDepth 100000 in
set_option maxHeartbeats 4000000 in
theorem c_X11_isGuess (l : Launch) (D : va_G) (G : Nat → Nat) (b0 : Nat) (f : hM) (M : Nat → Nat) (hM : mw G f M) (p0 : Int32) (p1 : Int32) (p2 : Int32) (p3 : Int32) (p4 : Int32) : mI l yX11_isGuess cX11_isGuess 6 (.boolean) { frames := 2, cells := 0, slots := 0, locals := 46 } D G b0 f [.ref (M 0), .int p0, .int p1, .int p2, .int p3, .int p4] (fun r f1 => (0 : Int32) = r ∧ f = f1) := by
  refine met_of (own := RX11) (by decide) rfl (Nat.le_of_ble_eq_true rfl) ?_
  intro p e s m below meth c ls C hr hini hl h
  have hl : lv_has ls 6 [(0, .ref (M 0)), (1, .int p0), (2, .int p1), (3, .int p2), (4, .int p3), (5, .int p4)] := hl
  obtain ⟨hx, hb, hml, hown, hts, hE0, hlk⟩ := id C
  obtain ⟨km0, km1, km2, km3, km4, km5⟩ := hM
  refine lv_aload_n hx hb dX11_isGuess_0 rfl (lv_at hl 0 rfl) ?_
  refine lv_iload_n hx hb dX11_isGuess_1 rfl (lv_at hl 1 rfl) ?_
  refine k_i (r_V C h hl (As := [.int p0]) (rest := []) (c_X11_isSet l D G b0 f M ⟨km0, km1, km2, km3, km4, km5⟩ p0) km0 (Cn := RX11) (T := TX11) (N := 32) rfl rfl mk_X11_isSet w_1624 w_1626 w_51 w_1627 ⟨Nat.le_of_ble_eq_true rfl, Nat.le_of_ble_eq_true rfl⟩ rfl (Nat.le_of_ble_eq_true rfl) ⟨Nat.le_of_ble_eq_true rfl, Nat.le_of_ble_eq_true rfl⟩ rfl dX11_isGuess_2) h (fun r_194 f_195 H locs p_196 h => ?_)
  obtain ⟨e_, rfl⟩ := p_196
  subst e_
  refine lv_if_eq (tgt := 70) hx hb dX11_isGuess_5 (by decide) (fun c_197 => ?_) (fun c_197 => ?_)
  · refine lv_iconst (v := 0) hx hb dX11_isGuess_70 (by decide) ?_
    exact q_zret C h hr (Or.inl rfl) (⟨rfl, rfl⟩) (Nat.le_of_ble_eq_true rfl) (Nat.le_of_ble_eq_true rfl) dX11_isGuess_71
  · exact absurd c_197 (by decide)
set_option maxRecDepth 100000 in
set_option maxHeartbeats 4000000 in
theorem c_X11_numberOf (l : Launch) (D : va_G) (G : Nat → Nat) (b0 : Nat) (f : hM) (M : Nat → Nat) (hM : mw G f M) (p0 : Int32) (p1 : Int32) (p2 : Int32) (p3 : Int32) (p4 : Int32) (p5 : Int32) (p6 : Int32) : mI l yX11_numberOf cX11_numberOf 8 (.int) { frames := 3, cells := 0, slots := 0, locals := 71 } D G b0 f [.ref (M 0), .int p0, .int p1, .int p2, .int p3, .int p4, .int p5, .int p6] (fun r f1 => (-1000000 : Int32) = r) := by
  refine met_of (own := RX11) (by decide) rfl (Nat.le_of_ble_eq_true rfl) ?_
  intro p e s m below meth c ls C hr hini hl h
  have hl : lv_has ls 8 [(0, .ref (M 0)), (1, .int p0), (2, .int p1), (3, .int p2), (4, .int p3), (5, .int p4), (6, .int p5), (7, .int p6)] := hl
  obtain ⟨hx, hb, hml, hown, hts, hE0, hlk⟩ := id C
  obtain ⟨km0, km1, km2, km3, km4, km5⟩ := hM
  refine lv_aload_n hx hb dX11_numberOf_0 rfl (lv_at hl 0 rfl) ?_
  refine lv_iload_n hx hb dX11_numberOf_1 rfl (lv_at hl 1 rfl) ?_
  refine lv_iload_n hx hb dX11_numberOf_2 rfl (lv_at hl 2 rfl) ?_
  refine lv_iload_n hx hb dX11_numberOf_3 rfl (lv_at hl 3 rfl) ?_
  refine lv_iload hx hb dX11_numberOf_4 (lv_at hl 4 rfl) ?_
  refine lv_iload hx hb dX11_numberOf_6 (lv_at hl 5 rfl) ?_
  refine k_i (r_V C h hl (As := [.int p0, .int p1, .int p2, .int p3, .int p4]) (rest := []) (c_X11_isGuess l D G b0 f M ⟨km0, km1, km2, km3, km4, km5⟩ p0 p1 p2 p3 p4) km0 (Cn := RX11) (T := TX11) (N := 32) rfl rfl mk_X11_isGuess w_1940 w_1942 w_78 w_1943 ⟨Nat.le_of_ble_eq_true rfl, Nat.le_of_ble_eq_true rfl⟩ rfl (Nat.le_of_ble_eq_true rfl) ⟨Nat.le_of_ble_eq_true rfl, Nat.le_of_ble_eq_true rfl⟩ rfl dX11_numberOf_8) h (fun r_198 f_199 H locs p_200 h => ?_)
  obtain ⟨e_, rfl⟩ := p_200
  subst e_
  refine lv_if_eq (tgt := 40) hx hb dX11_numberOf_11 (by decide) (fun c_201 => ?_) (fun c_201 => ?_)
  · refine lv_ldcw (v := -1000000) hx hb hown (hts _ w_1791) dX11_numberOf_40 ?_
    exact q_iret C h hr (rfl) (Nat.le_of_ble_eq_true rfl) (Nat.le_of_ble_eq_true rfl) dX11_numberOf_43
  · exact absurd c_201 (by decide)
set_option maxRecDepth 100000 in
set_option maxHeartbeats 4000000 in
theorem c_X11_failOf (l : Launch) (D : va_G) (G : Nat → Nat) (b0 : Nat) (f : hM) (M : Nat → Nat) (hM : mw G f M) (p0 : Int32) (p1 : Int32) (p2 : Int32) (p3 : Int32) (p4 : Int32) : mI l yX11_failOf cX11_failOf 6 (.int) { frames := 3, cells := 0, slots := 0, locals := 71 } D G b0 f [.ref (M 0), .int p0, .int p1, .int p2, .int p3, .int p4] (fun r f1 => (-1000000 : Int32) = r) := by
  refine met_of (own := RX11) (by decide) rfl (Nat.le_of_ble_eq_true rfl) ?_
  intro p e s m below meth c ls C hr hini hl h
  have hl : lv_has ls 6 [(0, .ref (M 0)), (1, .int p0), (2, .int p1), (3, .int p2), (4, .int p3), (5, .int p4)] := hl
  obtain ⟨hx, hb, hml, hown, hts, hE0, hlk⟩ := id C
  obtain ⟨km0, km1, km2, km3, km4, km5⟩ := hM
  refine lv_aload_n hx hb dX11_failOf_0 rfl (lv_at hl 0 rfl) ?_
  refine lv_iload_n hx hb dX11_failOf_1 rfl (lv_at hl 1 rfl) ?_
  refine lv_iload_n hx hb dX11_failOf_2 rfl (lv_at hl 2 rfl) ?_
  refine lv_iload_n hx hb dX11_failOf_3 rfl (lv_at hl 3 rfl) ?_
  refine lv_iload hx hb dX11_failOf_4 (lv_at hl 4 rfl) ?_
  refine lv_iload hx hb dX11_failOf_6 (lv_at hl 5 rfl) ?_
  refine k_i (r_V C h hl (As := [.int p0, .int p1, .int p2, .int p3, .int p4]) (rest := []) (c_X11_isGuess l D G b0 f M ⟨km0, km1, km2, km3, km4, km5⟩ p0 p1 p2 p3 p4) km0 (Cn := RX11) (T := TX11) (N := 32) rfl rfl mk_X11_isGuess w_1940 w_1942 w_78 w_1943 ⟨Nat.le_of_ble_eq_true rfl, Nat.le_of_ble_eq_true rfl⟩ rfl (Nat.le_of_ble_eq_true rfl) ⟨Nat.le_of_ble_eq_true rfl, Nat.le_of_ble_eq_true rfl⟩ rfl dX11_failOf_8) h (fun r_202 f_203 H locs p_204 h => ?_)
  obtain ⟨e_, rfl⟩ := p_204
  subst e_
  refine lv_if_ne (tgt := 18) hx hb dX11_failOf_11 (by decide) (fun c_205 => ?_) (fun c_205 => ?_)
  · exact absurd c_205 (by decide)
  · refine lv_ldcw (v := -1000000) hx hb hown (hts _ w_1791) dX11_failOf_14 ?_
    exact q_iret C h hr (rfl) (Nat.le_of_ble_eq_true rfl) (Nat.le_of_ble_eq_true rfl) dX11_failOf_17
set_option maxRecDepth 100000 in
set_option maxHeartbeats 4000000 in
theorem c_X11_drop (l : Launch) (D : va_G) (G : Nat → Nat) (b0 : Nat) (f : hM) (M : Nat → Nat) (hM : mw G f M) (p0 : Int32) : mI l yX11_drop cX11_drop 3 (.int) { frames := 2, cells := 0, slots := 0, locals := 46 } D G b0 f [.ref (M 0), .int p0] (fun r f1 => (-1 : Int32) = r) := by
  refine met_of (own := RX11) (by decide) rfl (Nat.le_of_ble_eq_true rfl) ?_
  intro p e s m below meth c ls C hr hini hl h
  have hl : lv_has ls 3 [(0, .ref (M 0)), (1, .int p0)] := hl
  obtain ⟨hx, hb, hml, hown, hts, hE0, hlk⟩ := id C
  obtain ⟨km0, km1, km2, km3, km4, km5⟩ := hM
  refine lv_aload_n hx hb dX11_drop_0 rfl (lv_at hl 0 rfl) ?_
  refine lv_iconst (v := 0) hx hb dX11_drop_1 (by decide) ?_
  refine q_put C h km0 flw_X11_75 (Or.inr ⟨_, _, _, rfl, rfl⟩) (v := .int 0) rfl rfl (Nat.le_of_ble_eq_true rfl) dX11_drop_2 (fun H locs h => ?_)
  have h : hw D b0 s.heap (hu f (M 0) (.inr (12, [.int 0, .ref (M 1), .int 0, .int 0, .int 0, .ref (M 2), .ref (M 3), .ref (M 4), .ref (M 5), .ref (M 6), .int 0, .int 0, .ref (M 7), .ref (M 8), .int 0, .ref (M 9), .ref (M 10), .ref (M 11), .long 0, .ref (M 12), .ref (M 13), .ref (M 14), .ref (M 15), .ref (M 16), .ref (M 17), .ref (M 18), .ref (M 19), .int 0, .int 0, .ref (M 20), .ref (M 21), .int 0]))) H locs := h
  rw [hu_id km0] at h
  refine lv_aload_n hx hb dX11_drop_5 rfl (lv_at hl 0 rfl) ?_
  refine lv_iload_n hx hb dX11_drop_6 rfl (lv_at hl 1 rfl) ?_
  refine k_i (r_V C h hl (As := [.int p0]) (rest := []) (c_X11_isSet l D G b0 f M ⟨km0, km1, km2, km3, km4, km5⟩ p0) km0 (Cn := RX11) (T := TX11) (N := 32) rfl rfl mk_X11_isSet w_1624 w_1626 w_51 w_1627 ⟨Nat.le_of_ble_eq_true rfl, Nat.le_of_ble_eq_true rfl⟩ rfl (Nat.le_of_ble_eq_true rfl) ⟨Nat.le_of_ble_eq_true rfl, Nat.le_of_ble_eq_true rfl⟩ rfl dX11_drop_7) h (fun r_206 f_207 H locs p_208 h => ?_)
  obtain ⟨e_, rfl⟩ := p_208
  subst e_
  refine lv_if_ne (tgt := 19) hx hb dX11_drop_10 (by decide) (fun c_209 => ?_) (fun c_209 => ?_)
  · exact absurd c_209 (by decide)
  · refine lv_aload_n hx hb dX11_drop_13 rfl (lv_at hl 0 rfl) ?_
    refine lv_iconst (v := 0) hx hb dX11_drop_14 (by decide) ?_
    refine k_i (r_V C h hl (As := [.int 0]) (rest := []) (c_X11_refuse l D G b0 f M ⟨km0, km1, km2, km3, km4, km5⟩ ) km0 (Cn := RX11) (T := TX11) (N := 32) rfl rfl mk_X11_refuse w_1608 w_1610 w_48 w_1611 ⟨Nat.le_of_ble_eq_true rfl, Nat.le_of_ble_eq_true rfl⟩ rfl (Nat.le_of_ble_eq_true rfl) ⟨Nat.le_of_ble_eq_true rfl, Nat.le_of_ble_eq_true rfl⟩ rfl dX11_drop_15) h (fun r_210 f_211 H locs p_212 h => ?_)
    subst p_212
    exact q_iret C h hr (rfl) (Nat.le_of_ble_eq_true rfl) (Nat.le_of_ble_eq_true rfl) dX11_drop_18
set_option maxRecDepth 100000 in
set_option maxHeartbeats 4000000 in
theorem c_X11_mirror (l : Launch) (D : va_G) (G : Nat → Nat) (b0 : Nat) (f : hM) (M : Nat → Nat) (hM : mw G f M) (p0 : Int32) : mI l yX11_mirror cX11_mirror 3 (.int) { frames := 2, cells := 0, slots := 0, locals := 46 } D G b0 f [.ref (M 0), .int p0] (fun r f1 => (-1 : Int32) = r) := by
  refine met_of (own := RX11) (by decide) rfl (Nat.le_of_ble_eq_true rfl) ?_
  intro p e s m below meth c ls C hr hini hl h
  have hl : lv_has ls 3 [(0, .ref (M 0)), (1, .int p0)] := hl
  obtain ⟨hx, hb, hml, hown, hts, hE0, hlk⟩ := id C
  obtain ⟨km0, km1, km2, km3, km4, km5⟩ := hM
  refine lv_aload_n hx hb dX11_mirror_0 rfl (lv_at hl 0 rfl) ?_
  refine lv_iconst (v := 0) hx hb dX11_mirror_1 (by decide) ?_
  refine q_put C h km0 flw_X11_75 (Or.inr ⟨_, _, _, rfl, rfl⟩) (v := .int 0) rfl rfl (Nat.le_of_ble_eq_true rfl) dX11_mirror_2 (fun H locs h => ?_)
  have h : hw D b0 s.heap (hu f (M 0) (.inr (12, [.int 0, .ref (M 1), .int 0, .int 0, .int 0, .ref (M 2), .ref (M 3), .ref (M 4), .ref (M 5), .ref (M 6), .int 0, .int 0, .ref (M 7), .ref (M 8), .int 0, .ref (M 9), .ref (M 10), .ref (M 11), .long 0, .ref (M 12), .ref (M 13), .ref (M 14), .ref (M 15), .ref (M 16), .ref (M 17), .ref (M 18), .ref (M 19), .int 0, .int 0, .ref (M 20), .ref (M 21), .int 0]))) H locs := h
  rw [hu_id km0] at h
  refine lv_aload_n hx hb dX11_mirror_5 rfl (lv_at hl 0 rfl) ?_
  refine lv_iload_n hx hb dX11_mirror_6 rfl (lv_at hl 1 rfl) ?_
  refine k_i (r_V C h hl (As := [.int p0]) (rest := []) (c_X11_isSet l D G b0 f M ⟨km0, km1, km2, km3, km4, km5⟩ p0) km0 (Cn := RX11) (T := TX11) (N := 32) rfl rfl mk_X11_isSet w_1624 w_1626 w_51 w_1627 ⟨Nat.le_of_ble_eq_true rfl, Nat.le_of_ble_eq_true rfl⟩ rfl (Nat.le_of_ble_eq_true rfl) ⟨Nat.le_of_ble_eq_true rfl, Nat.le_of_ble_eq_true rfl⟩ rfl dX11_mirror_7) h (fun r_213 f_214 H locs p_215 h => ?_)
  obtain ⟨e_, rfl⟩ := p_215
  subst e_
  refine lv_if_ne (tgt := 19) hx hb dX11_mirror_10 (by decide) (fun c_216 => ?_) (fun c_216 => ?_)
  · exact absurd c_216 (by decide)
  · refine lv_aload_n hx hb dX11_mirror_13 rfl (lv_at hl 0 rfl) ?_
    refine lv_iconst (v := 0) hx hb dX11_mirror_14 (by decide) ?_
    refine k_i (r_V C h hl (As := [.int 0]) (rest := []) (c_X11_refuse l D G b0 f M ⟨km0, km1, km2, km3, km4, km5⟩ ) km0 (Cn := RX11) (T := TX11) (N := 32) rfl rfl mk_X11_refuse w_1608 w_1610 w_48 w_1611 ⟨Nat.le_of_ble_eq_true rfl, Nat.le_of_ble_eq_true rfl⟩ rfl (Nat.le_of_ble_eq_true rfl) ⟨Nat.le_of_ble_eq_true rfl, Nat.le_of_ble_eq_true rfl⟩ rfl dX11_mirror_15) h (fun r_217 f_218 H locs p_219 h => ?_)
    subst p_219
    exact q_iret C h hr (rfl) (Nat.le_of_ble_eq_true rfl) (Nat.le_of_ble_eq_true rfl) dX11_mirror_18
set_option maxRecDepth 100000 in
set_option maxHeartbeats 4000000 in
theorem c_X11_turn (l : Launch) (D : va_G) (G : Nat → Nat) (b0 : Nat) (f : hM) (M : Nat → Nat) (hM : mw G f M) (p0 : Int32) : mI l yX11_turn cX11_turn 3 (.int) { frames := 2, cells := 0, slots := 0, locals := 46 } D G b0 f [.ref (M 0), .int p0] (fun r f1 => (-1 : Int32) = r) := by
  refine met_of (own := RX11) (by decide) rfl (Nat.le_of_ble_eq_true rfl) ?_
  intro p e s m below meth c ls C hr hini hl h
  have hl : lv_has ls 3 [(0, .ref (M 0)), (1, .int p0)] := hl
  obtain ⟨hx, hb, hml, hown, hts, hE0, hlk⟩ := id C
  obtain ⟨km0, km1, km2, km3, km4, km5⟩ := hM
  refine lv_aload_n hx hb dX11_turn_0 rfl (lv_at hl 0 rfl) ?_
  refine lv_iconst (v := 0) hx hb dX11_turn_1 (by decide) ?_
  refine q_put C h km0 flw_X11_75 (Or.inr ⟨_, _, _, rfl, rfl⟩) (v := .int 0) rfl rfl (Nat.le_of_ble_eq_true rfl) dX11_turn_2 (fun H locs h => ?_)
  have h : hw D b0 s.heap (hu f (M 0) (.inr (12, [.int 0, .ref (M 1), .int 0, .int 0, .int 0, .ref (M 2), .ref (M 3), .ref (M 4), .ref (M 5), .ref (M 6), .int 0, .int 0, .ref (M 7), .ref (M 8), .int 0, .ref (M 9), .ref (M 10), .ref (M 11), .long 0, .ref (M 12), .ref (M 13), .ref (M 14), .ref (M 15), .ref (M 16), .ref (M 17), .ref (M 18), .ref (M 19), .int 0, .int 0, .ref (M 20), .ref (M 21), .int 0]))) H locs := h
  rw [hu_id km0] at h
  refine lv_aload_n hx hb dX11_turn_5 rfl (lv_at hl 0 rfl) ?_
  refine lv_iload_n hx hb dX11_turn_6 rfl (lv_at hl 1 rfl) ?_
  refine k_i (r_V C h hl (As := [.int p0]) (rest := []) (c_X11_isSet l D G b0 f M ⟨km0, km1, km2, km3, km4, km5⟩ p0) km0 (Cn := RX11) (T := TX11) (N := 32) rfl rfl mk_X11_isSet w_1624 w_1626 w_51 w_1627 ⟨Nat.le_of_ble_eq_true rfl, Nat.le_of_ble_eq_true rfl⟩ rfl (Nat.le_of_ble_eq_true rfl) ⟨Nat.le_of_ble_eq_true rfl, Nat.le_of_ble_eq_true rfl⟩ rfl dX11_turn_7) h (fun r_220 f_221 H locs p_222 h => ?_)
  obtain ⟨e_, rfl⟩ := p_222
  subst e_
  refine lv_if_ne (tgt := 19) hx hb dX11_turn_10 (by decide) (fun c_223 => ?_) (fun c_223 => ?_)
  · exact absurd c_223 (by decide)
  · refine lv_aload_n hx hb dX11_turn_13 rfl (lv_at hl 0 rfl) ?_
    refine lv_iconst (v := 0) hx hb dX11_turn_14 (by decide) ?_
    refine k_i (r_V C h hl (As := [.int 0]) (rest := []) (c_X11_refuse l D G b0 f M ⟨km0, km1, km2, km3, km4, km5⟩ ) km0 (Cn := RX11) (T := TX11) (N := 32) rfl rfl mk_X11_refuse w_1608 w_1610 w_48 w_1611 ⟨Nat.le_of_ble_eq_true rfl, Nat.le_of_ble_eq_true rfl⟩ rfl (Nat.le_of_ble_eq_true rfl) ⟨Nat.le_of_ble_eq_true rfl, Nat.le_of_ble_eq_true rfl⟩ rfl dX11_turn_15) h (fun r_224 f_225 H locs p_226 h => ?_)
    subst p_226
    exact q_iret C h hr (rfl) (Nat.le_of_ble_eq_true rfl) (Nat.le_of_ble_eq_true rfl) dX11_turn_18
set_option maxRecDepth 100000 in
set_option maxHeartbeats 4000000 in
theorem c_X11_join (l : Launch) (D : va_G) (G : Nat → Nat) (b0 : Nat) (f : hM) (M : Nat → Nat) (hM : mw G f M) (p0 : Int32) (p1 : Int32) : mI l yX11_join cX11_join 4 (.int) { frames := 2, cells := 0, slots := 0, locals := 46 } D G b0 f [.ref (M 0), .int p0, .int p1] (fun r f1 => (-1 : Int32) = r) := by
  refine met_of (own := RX11) (by decide) rfl (Nat.le_of_ble_eq_true rfl) ?_
  intro p e s m below meth c ls C hr hini hl h
  have hl : lv_has ls 4 [(0, .ref (M 0)), (1, .int p0), (2, .int p1)] := hl
  obtain ⟨hx, hb, hml, hown, hts, hE0, hlk⟩ := id C
  obtain ⟨km0, km1, km2, km3, km4, km5⟩ := hM
  refine lv_aload_n hx hb dX11_join_0 rfl (lv_at hl 0 rfl) ?_
  refine lv_iconst (v := 0) hx hb dX11_join_1 (by decide) ?_
  refine q_put C h km0 flw_X11_75 (Or.inr ⟨_, _, _, rfl, rfl⟩) (v := .int 0) rfl rfl (Nat.le_of_ble_eq_true rfl) dX11_join_2 (fun H locs h => ?_)
  have h : hw D b0 s.heap (hu f (M 0) (.inr (12, [.int 0, .ref (M 1), .int 0, .int 0, .int 0, .ref (M 2), .ref (M 3), .ref (M 4), .ref (M 5), .ref (M 6), .int 0, .int 0, .ref (M 7), .ref (M 8), .int 0, .ref (M 9), .ref (M 10), .ref (M 11), .long 0, .ref (M 12), .ref (M 13), .ref (M 14), .ref (M 15), .ref (M 16), .ref (M 17), .ref (M 18), .ref (M 19), .int 0, .int 0, .ref (M 20), .ref (M 21), .int 0]))) H locs := h
  rw [hu_id km0] at h
  refine lv_aload_n hx hb dX11_join_5 rfl (lv_at hl 0 rfl) ?_
  refine lv_iload_n hx hb dX11_join_6 rfl (lv_at hl 1 rfl) ?_
  refine k_i (r_V C h hl (As := [.int p0]) (rest := []) (c_X11_isSet l D G b0 f M ⟨km0, km1, km2, km3, km4, km5⟩ p0) km0 (Cn := RX11) (T := TX11) (N := 32) rfl rfl mk_X11_isSet w_1624 w_1626 w_51 w_1627 ⟨Nat.le_of_ble_eq_true rfl, Nat.le_of_ble_eq_true rfl⟩ rfl (Nat.le_of_ble_eq_true rfl) ⟨Nat.le_of_ble_eq_true rfl, Nat.le_of_ble_eq_true rfl⟩ rfl dX11_join_7) h (fun r_227 f_228 H locs p_229 h => ?_)
  obtain ⟨e_, rfl⟩ := p_229
  subst e_
  refine lv_if_eq (tgt := 21) hx hb dX11_join_10 (by decide) (fun c_230 => ?_) (fun c_230 => ?_)
  · refine lv_aload_n hx hb dX11_join_21 rfl (lv_at hl 0 rfl) ?_
    refine lv_iconst (v := 0) hx hb dX11_join_22 (by decide) ?_
    refine k_i (r_V C h hl (As := [.int 0]) (rest := []) (c_X11_refuse l D G b0 f M ⟨km0, km1, km2, km3, km4, km5⟩ ) km0 (Cn := RX11) (T := TX11) (N := 32) rfl rfl mk_X11_refuse w_1608 w_1610 w_48 w_1611 ⟨Nat.le_of_ble_eq_true rfl, Nat.le_of_ble_eq_true rfl⟩ rfl (Nat.le_of_ble_eq_true rfl) ⟨Nat.le_of_ble_eq_true rfl, Nat.le_of_ble_eq_true rfl⟩ rfl dX11_join_23) h (fun r_231 f_232 H locs p_233 h => ?_)
    subst p_233
    exact q_iret C h hr (rfl) (Nat.le_of_ble_eq_true rfl) (Nat.le_of_ble_eq_true rfl) dX11_join_26
  · exact absurd c_230 (by decide)
set_option maxRecDepth 100000 in
set_option maxHeartbeats 4000000 in
theorem c_X11_scale (l : Launch) (D : va_G) (G : Nat → Nat) (b0 : Nat) (f : hM) (M : Nat → Nat) (hM : mw G f M) (p0 : Int32) (p1 : Int32) : mI l yX11_scale cX11_scale 4 (.int) { frames := 2, cells := 0, slots := 0, locals := 46 } D G b0 f [.ref (M 0), .int p0, .int p1] (fun r f1 => (-1 : Int32) = r) := by
  refine met_of (own := RX11) (by decide) rfl (Nat.le_of_ble_eq_true rfl) ?_
  intro p e s m below meth c ls C hr hini hl h
  have hl : lv_has ls 4 [(0, .ref (M 0)), (1, .int p0), (2, .int p1)] := hl
  obtain ⟨hx, hb, hml, hown, hts, hE0, hlk⟩ := id C
  obtain ⟨km0, km1, km2, km3, km4, km5⟩ := hM
  refine lv_aload_n hx hb dX11_scale_0 rfl (lv_at hl 0 rfl) ?_
  refine lv_iconst (v := 0) hx hb dX11_scale_1 (by decide) ?_
  refine q_put C h km0 flw_X11_75 (Or.inr ⟨_, _, _, rfl, rfl⟩) (v := .int 0) rfl rfl (Nat.le_of_ble_eq_true rfl) dX11_scale_2 (fun H locs h => ?_)
  have h : hw D b0 s.heap (hu f (M 0) (.inr (12, [.int 0, .ref (M 1), .int 0, .int 0, .int 0, .ref (M 2), .ref (M 3), .ref (M 4), .ref (M 5), .ref (M 6), .int 0, .int 0, .ref (M 7), .ref (M 8), .int 0, .ref (M 9), .ref (M 10), .ref (M 11), .long 0, .ref (M 12), .ref (M 13), .ref (M 14), .ref (M 15), .ref (M 16), .ref (M 17), .ref (M 18), .ref (M 19), .int 0, .int 0, .ref (M 20), .ref (M 21), .int 0]))) H locs := h
  rw [hu_id km0] at h
  refine lv_aload_n hx hb dX11_scale_5 rfl (lv_at hl 0 rfl) ?_
  refine lv_iload_n hx hb dX11_scale_6 rfl (lv_at hl 1 rfl) ?_
  refine k_i (r_V C h hl (As := [.int p0]) (rest := []) (c_X11_isSet l D G b0 f M ⟨km0, km1, km2, km3, km4, km5⟩ p0) km0 (Cn := RX11) (T := TX11) (N := 32) rfl rfl mk_X11_isSet w_1624 w_1626 w_51 w_1627 ⟨Nat.le_of_ble_eq_true rfl, Nat.le_of_ble_eq_true rfl⟩ rfl (Nat.le_of_ble_eq_true rfl) ⟨Nat.le_of_ble_eq_true rfl, Nat.le_of_ble_eq_true rfl⟩ rfl dX11_scale_7) h (fun r_234 f_235 H locs p_236 h => ?_)
  obtain ⟨e_, rfl⟩ := p_236
  subst e_
  refine lv_if_ne (tgt := 19) hx hb dX11_scale_10 (by decide) (fun c_237 => ?_) (fun c_237 => ?_)
  · exact absurd c_237 (by decide)
  · refine lv_aload_n hx hb dX11_scale_13 rfl (lv_at hl 0 rfl) ?_
    refine lv_iconst (v := 0) hx hb dX11_scale_14 (by decide) ?_
    refine k_i (r_V C h hl (As := [.int 0]) (rest := []) (c_X11_refuse l D G b0 f M ⟨km0, km1, km2, km3, km4, km5⟩ ) km0 (Cn := RX11) (T := TX11) (N := 32) rfl rfl mk_X11_refuse w_1608 w_1610 w_48 w_1611 ⟨Nat.le_of_ble_eq_true rfl, Nat.le_of_ble_eq_true rfl⟩ rfl (Nat.le_of_ble_eq_true rfl) ⟨Nat.le_of_ble_eq_true rfl, Nat.le_of_ble_eq_true rfl⟩ rfl dX11_scale_15) h (fun r_238 f_239 H locs p_240 h => ?_)
    subst p_240
    exact q_iret C h hr (rfl) (Nat.le_of_ble_eq_true rfl) (Nat.le_of_ble_eq_true rfl) dX11_scale_18
set_option maxRecDepth 100000 in
set_option maxHeartbeats 4000000 in
theorem c_X11_weigh (l : Launch) (D : va_G) (G : Nat → Nat) (b0 : Nat) (f : hM) (M : Nat → Nat) (hM : mw G f M) (p0 : Int32) (p1 : Int32) (p2 : Int32) : mI l yX11_weigh cX11_weigh 5 (.int) { frames := 2, cells := 0, slots := 0, locals := 46 } D G b0 f [.ref (M 0), .int p0, .int p1, .int p2] (fun r f1 => (-1 : Int32) = r) := by
  refine met_of (own := RX11) (by decide) rfl (Nat.le_of_ble_eq_true rfl) ?_
  intro p e s m below meth c ls C hr hini hl h
  have hl : lv_has ls 5 [(0, .ref (M 0)), (1, .int p0), (2, .int p1), (3, .int p2)] := hl
  obtain ⟨hx, hb, hml, hown, hts, hE0, hlk⟩ := id C
  obtain ⟨km0, km1, km2, km3, km4, km5⟩ := hM
  refine lv_aload_n hx hb dX11_weigh_0 rfl (lv_at hl 0 rfl) ?_
  refine lv_iconst (v := 0) hx hb dX11_weigh_1 (by decide) ?_
  refine q_put C h km0 flw_X11_75 (Or.inr ⟨_, _, _, rfl, rfl⟩) (v := .int 0) rfl rfl (Nat.le_of_ble_eq_true rfl) dX11_weigh_2 (fun H locs h => ?_)
  have h : hw D b0 s.heap (hu f (M 0) (.inr (12, [.int 0, .ref (M 1), .int 0, .int 0, .int 0, .ref (M 2), .ref (M 3), .ref (M 4), .ref (M 5), .ref (M 6), .int 0, .int 0, .ref (M 7), .ref (M 8), .int 0, .ref (M 9), .ref (M 10), .ref (M 11), .long 0, .ref (M 12), .ref (M 13), .ref (M 14), .ref (M 15), .ref (M 16), .ref (M 17), .ref (M 18), .ref (M 19), .int 0, .int 0, .ref (M 20), .ref (M 21), .int 0]))) H locs := h
  rw [hu_id km0] at h
  refine lv_aload_n hx hb dX11_weigh_5 rfl (lv_at hl 0 rfl) ?_
  refine lv_iload_n hx hb dX11_weigh_6 rfl (lv_at hl 1 rfl) ?_
  refine k_i (r_V C h hl (As := [.int p0]) (rest := []) (c_X11_isSet l D G b0 f M ⟨km0, km1, km2, km3, km4, km5⟩ p0) km0 (Cn := RX11) (T := TX11) (N := 32) rfl rfl mk_X11_isSet w_1624 w_1626 w_51 w_1627 ⟨Nat.le_of_ble_eq_true rfl, Nat.le_of_ble_eq_true rfl⟩ rfl (Nat.le_of_ble_eq_true rfl) ⟨Nat.le_of_ble_eq_true rfl, Nat.le_of_ble_eq_true rfl⟩ rfl dX11_weigh_7) h (fun r_241 f_242 H locs p_243 h => ?_)
  obtain ⟨e_, rfl⟩ := p_243
  subst e_
  refine lv_if_ne (tgt := 19) hx hb dX11_weigh_10 (by decide) (fun c_244 => ?_) (fun c_244 => ?_)
  · exact absurd c_244 (by decide)
  · refine lv_aload_n hx hb dX11_weigh_13 rfl (lv_at hl 0 rfl) ?_
    refine lv_iconst (v := 0) hx hb dX11_weigh_14 (by decide) ?_
    refine k_i (r_V C h hl (As := [.int 0]) (rest := []) (c_X11_refuse l D G b0 f M ⟨km0, km1, km2, km3, km4, km5⟩ ) km0 (Cn := RX11) (T := TX11) (N := 32) rfl rfl mk_X11_refuse w_1608 w_1610 w_48 w_1611 ⟨Nat.le_of_ble_eq_true rfl, Nat.le_of_ble_eq_true rfl⟩ rfl (Nat.le_of_ble_eq_true rfl) ⟨Nat.le_of_ble_eq_true rfl, Nat.le_of_ble_eq_true rfl⟩ rfl dX11_weigh_15) h (fun r_245 f_246 H locs p_247 h => ?_)
    subst p_247
    exact q_iret C h hr (rfl) (Nat.le_of_ble_eq_true rfl) (Nat.le_of_ble_eq_true rfl) dX11_weigh_18
set_option maxRecDepth 100000 in
set_option maxHeartbeats 4000000 in
theorem c_X11_start (l : Launch) (D : va_G) (G : Nat → Nat) (b0 : Nat) (f : hM) (M : Nat → Nat) (hM : mw G f M) (p0 : Int32) (p1 : Int32) (p2 : Int32) : mI l yX11_start cX11_start 5 (.int) { frames := 2, cells := 0, slots := 0, locals := 46 } D G b0 f [.ref (M 0), .int p0, .int p1, .int p2] (fun r f1 => (-1 : Int32) = r) := by
  refine met_of (own := RX11) (by decide) rfl (Nat.le_of_ble_eq_true rfl) ?_
  intro p e s m below meth c ls C hr hini hl h
  have hl : lv_has ls 5 [(0, .ref (M 0)), (1, .int p0), (2, .int p1), (3, .int p2)] := hl
  obtain ⟨hx, hb, hml, hown, hts, hE0, hlk⟩ := id C
  obtain ⟨km0, km1, km2, km3, km4, km5⟩ := hM
  refine lv_aload_n hx hb dX11_start_0 rfl (lv_at hl 0 rfl) ?_
  refine lv_iconst (v := 0) hx hb dX11_start_1 (by decide) ?_
  refine q_put C h km0 flw_X11_75 (Or.inr ⟨_, _, _, rfl, rfl⟩) (v := .int 0) rfl rfl (Nat.le_of_ble_eq_true rfl) dX11_start_2 (fun H locs h => ?_)
  have h : hw D b0 s.heap (hu f (M 0) (.inr (12, [.int 0, .ref (M 1), .int 0, .int 0, .int 0, .ref (M 2), .ref (M 3), .ref (M 4), .ref (M 5), .ref (M 6), .int 0, .int 0, .ref (M 7), .ref (M 8), .int 0, .ref (M 9), .ref (M 10), .ref (M 11), .long 0, .ref (M 12), .ref (M 13), .ref (M 14), .ref (M 15), .ref (M 16), .ref (M 17), .ref (M 18), .ref (M 19), .int 0, .int 0, .ref (M 20), .ref (M 21), .int 0]))) H locs := h
  rw [hu_id km0] at h
  refine lv_aload_n hx hb dX11_start_5 rfl (lv_at hl 0 rfl) ?_
  refine lv_iload_n hx hb dX11_start_6 rfl (lv_at hl 1 rfl) ?_
  refine k_i (r_V C h hl (As := [.int p0]) (rest := []) (c_X11_isSet l D G b0 f M ⟨km0, km1, km2, km3, km4, km5⟩ p0) km0 (Cn := RX11) (T := TX11) (N := 32) rfl rfl mk_X11_isSet w_1624 w_1626 w_51 w_1627 ⟨Nat.le_of_ble_eq_true rfl, Nat.le_of_ble_eq_true rfl⟩ rfl (Nat.le_of_ble_eq_true rfl) ⟨Nat.le_of_ble_eq_true rfl, Nat.le_of_ble_eq_true rfl⟩ rfl dX11_start_7) h (fun r_248 f_249 H locs p_250 h => ?_)
  obtain ⟨e_, rfl⟩ := p_250
  subst e_
  refine lv_if_ne (tgt := 19) hx hb dX11_start_10 (by decide) (fun c_251 => ?_) (fun c_251 => ?_)
  · exact absurd c_251 (by decide)
  · refine lv_aload_n hx hb dX11_start_13 rfl (lv_at hl 0 rfl) ?_
    refine lv_iconst (v := 0) hx hb dX11_start_14 (by decide) ?_
    refine k_i (r_V C h hl (As := [.int 0]) (rest := []) (c_X11_refuse l D G b0 f M ⟨km0, km1, km2, km3, km4, km5⟩ ) km0 (Cn := RX11) (T := TX11) (N := 32) rfl rfl mk_X11_refuse w_1608 w_1610 w_48 w_1611 ⟨Nat.le_of_ble_eq_true rfl, Nat.le_of_ble_eq_true rfl⟩ rfl (Nat.le_of_ble_eq_true rfl) ⟨Nat.le_of_ble_eq_true rfl, Nat.le_of_ble_eq_true rfl⟩ rfl dX11_start_15) h (fun r_252 f_253 H locs p_254 h => ?_)
    subst p_254
    exact q_iret C h hr (rfl) (Nat.le_of_ble_eq_true rfl) (Nat.le_of_ble_eq_true rfl) dX11_start_18
set_option maxRecDepth 100000 in
set_option maxHeartbeats 4000000 in
theorem c_X11_at (l : Launch) (D : va_G) (G : Nat → Nat) (b0 : Nat) (f : hM) (M : Nat → Nat) (hM : mw G f M) (p0 : Int32) (p1 : Int32) (p2 : Int32) (p3 : Int32) (p4 : Int32) : mI l yX11_at cX11_at 6 (.int) { frames := 2, cells := 0, slots := 0, locals := 46 } D G b0 f [.ref (M 0), .int p0, .int p1, .int p2, .int p3, .int p4] (fun r f1 => (-1 : Int32) = r) := by
  refine met_of (own := RX11) (by decide) rfl (Nat.le_of_ble_eq_true rfl) ?_
  intro p e s m below meth c ls C hr hini hl h
  have hl : lv_has ls 6 [(0, .ref (M 0)), (1, .int p0), (2, .int p1), (3, .int p2), (4, .int p3), (5, .int p4)] := hl
  obtain ⟨hx, hb, hml, hown, hts, hE0, hlk⟩ := id C
  obtain ⟨km0, km1, km2, km3, km4, km5⟩ := hM
  refine lv_aload_n hx hb dX11_at_0 rfl (lv_at hl 0 rfl) ?_
  refine lv_iconst (v := 0) hx hb dX11_at_1 (by decide) ?_
  refine q_put C h km0 flw_X11_75 (Or.inr ⟨_, _, _, rfl, rfl⟩) (v := .int 0) rfl rfl (Nat.le_of_ble_eq_true rfl) dX11_at_2 (fun H locs h => ?_)
  have h : hw D b0 s.heap (hu f (M 0) (.inr (12, [.int 0, .ref (M 1), .int 0, .int 0, .int 0, .ref (M 2), .ref (M 3), .ref (M 4), .ref (M 5), .ref (M 6), .int 0, .int 0, .ref (M 7), .ref (M 8), .int 0, .ref (M 9), .ref (M 10), .ref (M 11), .long 0, .ref (M 12), .ref (M 13), .ref (M 14), .ref (M 15), .ref (M 16), .ref (M 17), .ref (M 18), .ref (M 19), .int 0, .int 0, .ref (M 20), .ref (M 21), .int 0]))) H locs := h
  rw [hu_id km0] at h
  refine lv_iload_n hx hb dX11_at_5 rfl (lv_at hl 1 rfl) ?_
  refine lv_i2l (v := Int32.toInt64 p0) hx hb dX11_at_6 rfl ?_
  refine lv_lconst (v := 0) hx hb dX11_at_7 (by decide) ?_
  refine lv_ldc2 (v := 2) hx hb hown (hts _ w_1651) dX11_at_8 ?_
  refine k_i (r_S C h hl (As := [.long (Int32.toInt64 p0), .long 0, .long 2]) (rest := []) (c_X11_isIn l D G b0 f  (Int32.toInt64 p0) 0 2) mk_X11_isIn w_1628 w_1629 w_1630 ⟨Nat.le_of_ble_eq_true rfl, Nat.le_of_ble_eq_true rfl⟩ rfl (Nat.le_of_ble_eq_true rfl) ⟨Nat.le_of_ble_eq_true rfl, Nat.le_of_ble_eq_true rfl⟩ rfl dX11_at_11) h (fun r_255 f_256 H locs p_257 h => ?_)
  obtain ⟨e_, rfl⟩ := p_257
  subst e_
  refine lv_if_eq (tgt := 42) hx hb dX11_at_14 (by decide) (fun c_258 => ?_) (fun c_258 => ?_)
  · refine lv_iconst (v := -1) hx hb dX11_at_42 (by decide) ?_
    exact q_iret C h hr (rfl) (Nat.le_of_ble_eq_true rfl) (Nat.le_of_ble_eq_true rfl) dX11_at_43
  · refine lv_aload_n hx hb dX11_at_17 rfl (lv_at hl 0 rfl) ?_
    refine lv_iload_n hx hb dX11_at_18 rfl (lv_at hl 2 rfl) ?_
    refine k_i (r_V C h hl (As := [.int p1]) (rest := []) (c_X11_isSet l D G b0 f M ⟨km0, km1, km2, km3, km4, km5⟩ p1) km0 (Cn := RX11) (T := TX11) (N := 32) rfl rfl mk_X11_isSet w_1624 w_1626 w_51 w_1627 ⟨Nat.le_of_ble_eq_true rfl, Nat.le_of_ble_eq_true rfl⟩ rfl (Nat.le_of_ble_eq_true rfl) ⟨Nat.le_of_ble_eq_true rfl, Nat.le_of_ble_eq_true rfl⟩ rfl dX11_at_19) h (fun r_259 f_260 H locs p_261 h => ?_)
    obtain ⟨e_, rfl⟩ := p_261
    subst e_
    refine lv_if_eq (tgt := 42) hx hb dX11_at_22 (by decide) (fun c_262 => ?_) (fun c_262 => ?_)
    · refine lv_iconst (v := -1) hx hb dX11_at_42 (by decide) ?_
      exact q_iret C h hr (rfl) (Nat.le_of_ble_eq_true rfl) (Nat.le_of_ble_eq_true rfl) dX11_at_43
    · exact absurd c_262 (by decide)
set_option maxRecDepth 100000 in
set_option maxHeartbeats 4000000 in
theorem c_X11_series (l : Launch) (D : va_G) (G : Nat → Nat) (b0 : Nat) (f : hM) (M : Nat → Nat) (hM : mw G f M) (p0 : Int32) (p1 : Int32) (p2 : Int32) : mI l yX11_series cX11_series 4 (.int) { frames := 2, cells := 0, slots := 0, locals := 46 } D G b0 f [.ref (M 0), .int p0, .int p1, .int p2] (fun r f1 => (-1 : Int32) = r) := by
  refine met_of (own := RX11) (by decide) rfl (Nat.le_of_ble_eq_true rfl) ?_
  intro p e s m below meth c ls C hr hini hl h
  have hl : lv_has ls 4 [(0, .ref (M 0)), (1, .int p0), (2, .int p1), (3, .int p2)] := hl
  obtain ⟨hx, hb, hml, hown, hts, hE0, hlk⟩ := id C
  obtain ⟨km0, km1, km2, km3, km4, km5⟩ := hM
  refine lv_aload_n hx hb dX11_series_0 rfl (lv_at hl 0 rfl) ?_
  refine lv_iconst (v := 0) hx hb dX11_series_1 (by decide) ?_
  refine q_put C h km0 flw_X11_75 (Or.inr ⟨_, _, _, rfl, rfl⟩) (v := .int 0) rfl rfl (Nat.le_of_ble_eq_true rfl) dX11_series_2 (fun H locs h => ?_)
  have h : hw D b0 s.heap (hu f (M 0) (.inr (12, [.int 0, .ref (M 1), .int 0, .int 0, .int 0, .ref (M 2), .ref (M 3), .ref (M 4), .ref (M 5), .ref (M 6), .int 0, .int 0, .ref (M 7), .ref (M 8), .int 0, .ref (M 9), .ref (M 10), .ref (M 11), .long 0, .ref (M 12), .ref (M 13), .ref (M 14), .ref (M 15), .ref (M 16), .ref (M 17), .ref (M 18), .ref (M 19), .int 0, .int 0, .ref (M 20), .ref (M 21), .int 0]))) H locs := h
  rw [hu_id km0] at h
  refine lv_aload_n hx hb dX11_series_5 rfl (lv_at hl 0 rfl) ?_
  refine lv_iload_n hx hb dX11_series_6 rfl (lv_at hl 1 rfl) ?_
  refine k_i (r_V C h hl (As := [.int p0]) (rest := []) (c_X11_isSet l D G b0 f M ⟨km0, km1, km2, km3, km4, km5⟩ p0) km0 (Cn := RX11) (T := TX11) (N := 32) rfl rfl mk_X11_isSet w_1624 w_1626 w_51 w_1627 ⟨Nat.le_of_ble_eq_true rfl, Nat.le_of_ble_eq_true rfl⟩ rfl (Nat.le_of_ble_eq_true rfl) ⟨Nat.le_of_ble_eq_true rfl, Nat.le_of_ble_eq_true rfl⟩ rfl dX11_series_7) h (fun r_263 f_264 H locs p_265 h => ?_)
  obtain ⟨e_, rfl⟩ := p_265
  subst e_
  refine lv_if_eq (tgt := 32) hx hb dX11_series_10 (by decide) (fun c_266 => ?_) (fun c_266 => ?_)
  · refine lv_iconst (v := -1) hx hb dX11_series_32 (by decide) ?_
    exact q_iret C h hr (rfl) (Nat.le_of_ble_eq_true rfl) (Nat.le_of_ble_eq_true rfl) dX11_series_33
  · exact absurd c_266 (by decide)
set_option maxRecDepth 100000 in
set_option maxHeartbeats 4000000 in
theorem c_X11_exact (l : Launch) (D : va_G) (G : Nat → Nat) (b0 : Nat) (f : hM) (M : Nat → Nat) (hM : mw G f M) (p0 : Int32) (p1 : Int32) (p2 : Int32) (p3 : Int32) : mL l yX11_exact cX11_exact 5 { frames := 2, cells := 0, slots := 0, locals := 46 } D G b0 f [.ref (M 0), .int p0, .int p1, .int p2, .int p3] (fun r f1 => (-1 : Int64) = r) := by
  refine met_of (own := RX11) (by decide) rfl (Nat.le_of_ble_eq_true rfl) ?_
  intro p e s m below meth c ls C hr hini hl h
  have hl : lv_has ls 5 [(0, .ref (M 0)), (1, .int p0), (2, .int p1), (3, .int p2), (4, .int p3)] := hl
  obtain ⟨hx, hb, hml, hown, hts, hE0, hlk⟩ := id C
  obtain ⟨km0, km1, km2, km3, km4, km5⟩ := hM
  refine lv_aload_n hx hb dX11_exact_0 rfl (lv_at hl 0 rfl) ?_
  refine lv_iconst (v := 0) hx hb dX11_exact_1 (by decide) ?_
  refine q_put C h km0 flw_X11_75 (Or.inr ⟨_, _, _, rfl, rfl⟩) (v := .int 0) rfl rfl (Nat.le_of_ble_eq_true rfl) dX11_exact_2 (fun H locs h => ?_)
  have h : hw D b0 s.heap (hu f (M 0) (.inr (12, [.int 0, .ref (M 1), .int 0, .int 0, .int 0, .ref (M 2), .ref (M 3), .ref (M 4), .ref (M 5), .ref (M 6), .int 0, .int 0, .ref (M 7), .ref (M 8), .int 0, .ref (M 9), .ref (M 10), .ref (M 11), .long 0, .ref (M 12), .ref (M 13), .ref (M 14), .ref (M 15), .ref (M 16), .ref (M 17), .ref (M 18), .ref (M 19), .int 0, .int 0, .ref (M 20), .ref (M 21), .int 0]))) H locs := h
  rw [hu_id km0] at h
  refine lv_aload_n hx hb dX11_exact_5 rfl (lv_at hl 0 rfl) ?_
  refine lv_iload_n hx hb dX11_exact_6 rfl (lv_at hl 1 rfl) ?_
  refine k_i (r_V C h hl (As := [.int p0]) (rest := []) (c_X11_isSet l D G b0 f M ⟨km0, km1, km2, km3, km4, km5⟩ p0) km0 (Cn := RX11) (T := TX11) (N := 32) rfl rfl mk_X11_isSet w_1624 w_1626 w_51 w_1627 ⟨Nat.le_of_ble_eq_true rfl, Nat.le_of_ble_eq_true rfl⟩ rfl (Nat.le_of_ble_eq_true rfl) ⟨Nat.le_of_ble_eq_true rfl, Nat.le_of_ble_eq_true rfl⟩ rfl dX11_exact_7) h (fun r_267 f_268 H locs p_269 h => ?_)
  obtain ⟨e_, rfl⟩ := p_269
  subst e_
  refine lv_if_eq (tgt := 38) hx hb dX11_exact_10 (by decide) (fun c_270 => ?_) (fun c_270 => ?_)
  · refine lv_ldc2 (v := -1) hx hb hown (hts _ w_1752) dX11_exact_38 ?_
    exact q_lret C h hr (rfl) (Nat.le_of_ble_eq_true rfl) (Nat.le_of_ble_eq_true rfl) dX11_exact_41
  · exact absurd c_270 (by decide)
set_option maxRecDepth 100000 in
set_option maxHeartbeats 4000000 in
theorem c_X11_bridge (l : Launch) (D : va_G) (G : Nat → Nat) (b0 : Nat) (f : hM) (M : Nat → Nat) (hM : mw G f M) (p0 : Int32) (p1 : Int32) (p2 : Int32) (p3 : Int32) : mI l yX11_bridge cX11_bridge 6 (.int) { frames := 2, cells := 0, slots := 0, locals := 46 } D G b0 f [.ref (M 0), .int p0, .int p1, .int p2, .int p3] (fun r f1 => (-1 : Int32) = r) := by
  refine met_of (own := RX11) (by decide) rfl (Nat.le_of_ble_eq_true rfl) ?_
  intro p e s m below meth c ls C hr hini hl h
  have hl : lv_has ls 6 [(0, .ref (M 0)), (1, .int p0), (2, .int p1), (3, .int p2), (4, .int p3)] := hl
  obtain ⟨hx, hb, hml, hown, hts, hE0, hlk⟩ := id C
  obtain ⟨km0, km1, km2, km3, km4, km5⟩ := hM
  refine lv_aload_n hx hb dX11_bridge_0 rfl (lv_at hl 0 rfl) ?_
  refine lv_iconst (v := 0) hx hb dX11_bridge_1 (by decide) ?_
  refine q_put C h km0 flw_X11_75 (Or.inr ⟨_, _, _, rfl, rfl⟩) (v := .int 0) rfl rfl (Nat.le_of_ble_eq_true rfl) dX11_bridge_2 (fun H locs h => ?_)
  have h : hw D b0 s.heap (hu f (M 0) (.inr (12, [.int 0, .ref (M 1), .int 0, .int 0, .int 0, .ref (M 2), .ref (M 3), .ref (M 4), .ref (M 5), .ref (M 6), .int 0, .int 0, .ref (M 7), .ref (M 8), .int 0, .ref (M 9), .ref (M 10), .ref (M 11), .long 0, .ref (M 12), .ref (M 13), .ref (M 14), .ref (M 15), .ref (M 16), .ref (M 17), .ref (M 18), .ref (M 19), .int 0, .int 0, .ref (M 20), .ref (M 21), .int 0]))) H locs := h
  rw [hu_id km0] at h
  refine lv_aload_n hx hb dX11_bridge_5 rfl (lv_at hl 0 rfl) ?_
  refine lv_iload_n hx hb dX11_bridge_6 rfl (lv_at hl 1 rfl) ?_
  refine k_i (r_V C h hl (As := [.int p0]) (rest := []) (c_X11_isSet l D G b0 f M ⟨km0, km1, km2, km3, km4, km5⟩ p0) km0 (Cn := RX11) (T := TX11) (N := 32) rfl rfl mk_X11_isSet w_1624 w_1626 w_51 w_1627 ⟨Nat.le_of_ble_eq_true rfl, Nat.le_of_ble_eq_true rfl⟩ rfl (Nat.le_of_ble_eq_true rfl) ⟨Nat.le_of_ble_eq_true rfl, Nat.le_of_ble_eq_true rfl⟩ rfl dX11_bridge_7) h (fun r_271 f_272 H locs p_273 h => ?_)
  obtain ⟨e_, rfl⟩ := p_273
  subst e_
  refine lv_if_eq (tgt := 29) hx hb dX11_bridge_10 (by decide) (fun c_274 => ?_) (fun c_274 => ?_)
  · refine lv_iconst (v := -1) hx hb dX11_bridge_29 (by decide) ?_
    exact q_iret C h hr (rfl) (Nat.le_of_ble_eq_true rfl) (Nat.le_of_ble_eq_true rfl) dX11_bridge_30
  · exact absurd c_274 (by decide)
set_option maxRecDepth 100000 in
set_option maxHeartbeats 4000000 in
theorem c_X11_reflected (l : Launch) (D : va_G) (G : Nat → Nat) (b0 : Nat) (f : hM) (M : Nat → Nat) (hM : mw G f M) (p0 : Int32) (p1 : Int32) (p2 : Int32) (p3 : Int32) : mI l yX11_reflected cX11_reflected 7 (.int) { frames := 2, cells := 0, slots := 0, locals := 46 } D G b0 f [.ref (M 0), .int p0, .int p1, .int p2, .int p3] (fun r f1 => (-1000000 : Int32) = r) := by
  refine met_of (own := RX11) (by decide) rfl (Nat.le_of_ble_eq_true rfl) ?_
  intro p e s m below meth c ls C hr hini hl h
  have hl : lv_has ls 7 [(0, .ref (M 0)), (1, .int p0), (2, .int p1), (3, .int p2), (4, .int p3)] := hl
  obtain ⟨hx, hb, hml, hown, hts, hE0, hlk⟩ := id C
  obtain ⟨km0, km1, km2, km3, km4, km5⟩ := hM
  refine lv_aload_n hx hb dX11_reflected_0 rfl (lv_at hl 0 rfl) ?_
  refine lv_iconst (v := 0) hx hb dX11_reflected_1 (by decide) ?_
  refine q_put C h km0 flw_X11_75 (Or.inr ⟨_, _, _, rfl, rfl⟩) (v := .int 0) rfl rfl (Nat.le_of_ble_eq_true rfl) dX11_reflected_2 (fun H locs h => ?_)
  have h : hw D b0 s.heap (hu f (M 0) (.inr (12, [.int 0, .ref (M 1), .int 0, .int 0, .int 0, .ref (M 2), .ref (M 3), .ref (M 4), .ref (M 5), .ref (M 6), .int 0, .int 0, .ref (M 7), .ref (M 8), .int 0, .ref (M 9), .ref (M 10), .ref (M 11), .long 0, .ref (M 12), .ref (M 13), .ref (M 14), .ref (M 15), .ref (M 16), .ref (M 17), .ref (M 18), .ref (M 19), .int 0, .int 0, .ref (M 20), .ref (M 21), .int 0]))) H locs := h
  rw [hu_id km0] at h
  refine lv_aload_n hx hb dX11_reflected_5 rfl (lv_at hl 0 rfl) ?_
  refine lv_iload_n hx hb dX11_reflected_6 rfl (lv_at hl 1 rfl) ?_
  refine k_i (r_V C h hl (As := [.int p0]) (rest := []) (c_X11_isSet l D G b0 f M ⟨km0, km1, km2, km3, km4, km5⟩ p0) km0 (Cn := RX11) (T := TX11) (N := 32) rfl rfl mk_X11_isSet w_1624 w_1626 w_51 w_1627 ⟨Nat.le_of_ble_eq_true rfl, Nat.le_of_ble_eq_true rfl⟩ rfl (Nat.le_of_ble_eq_true rfl) ⟨Nat.le_of_ble_eq_true rfl, Nat.le_of_ble_eq_true rfl⟩ rfl dX11_reflected_7) h (fun r_275 f_276 H locs p_277 h => ?_)
  obtain ⟨e_, rfl⟩ := p_277
  subst e_
  refine lv_if_eq (tgt := 53) hx hb dX11_reflected_10 (by decide) (fun c_278 => ?_) (fun c_278 => ?_)
  · refine lv_ldcw (v := -1000000) hx hb hown (hts _ w_1791) dX11_reflected_53 ?_
    exact q_iret C h hr (rfl) (Nat.le_of_ble_eq_true rfl) (Nat.le_of_ble_eq_true rfl) dX11_reflected_56
  · exact absurd c_278 (by decide)
set_option maxRecDepth 100000 in
set_option maxHeartbeats 4000000 in
theorem c_X11_rank (l : Launch) (D : va_G) (G : Nat → Nat) (b0 : Nat) (f : hM) (M : Nat → Nat) (hM : mw G f M) (p0 : Int32) (p1 : Int32) : mI l yX11_rank cX11_rank 5 (.int) { frames := 2, cells := 0, slots := 0, locals := 46 } D G b0 f [.ref (M 0), .int p0, .int p1] (fun r f1 => (-1 : Int32) = r) := by
  refine met_of (own := RX11) (by decide) rfl (Nat.le_of_ble_eq_true rfl) ?_
  intro p e s m below meth c ls C hr hini hl h
  have hl : lv_has ls 5 [(0, .ref (M 0)), (1, .int p0), (2, .int p1)] := hl
  obtain ⟨hx, hb, hml, hown, hts, hE0, hlk⟩ := id C
  obtain ⟨km0, km1, km2, km3, km4, km5⟩ := hM
  refine lv_aload_n hx hb dX11_rank_0 rfl (lv_at hl 0 rfl) ?_
  refine lv_iconst (v := 0) hx hb dX11_rank_1 (by decide) ?_
  refine q_put C h km0 flw_X11_75 (Or.inr ⟨_, _, _, rfl, rfl⟩) (v := .int 0) rfl rfl (Nat.le_of_ble_eq_true rfl) dX11_rank_2 (fun H locs h => ?_)
  have h : hw D b0 s.heap (hu f (M 0) (.inr (12, [.int 0, .ref (M 1), .int 0, .int 0, .int 0, .ref (M 2), .ref (M 3), .ref (M 4), .ref (M 5), .ref (M 6), .int 0, .int 0, .ref (M 7), .ref (M 8), .int 0, .ref (M 9), .ref (M 10), .ref (M 11), .long 0, .ref (M 12), .ref (M 13), .ref (M 14), .ref (M 15), .ref (M 16), .ref (M 17), .ref (M 18), .ref (M 19), .int 0, .int 0, .ref (M 20), .ref (M 21), .int 0]))) H locs := h
  rw [hu_id km0] at h
  refine lv_aload_n hx hb dX11_rank_5 rfl (lv_at hl 0 rfl) ?_
  refine lv_iload_n hx hb dX11_rank_6 rfl (lv_at hl 1 rfl) ?_
  refine k_i (r_V C h hl (As := [.int p0]) (rest := []) (c_X11_isSet l D G b0 f M ⟨km0, km1, km2, km3, km4, km5⟩ p0) km0 (Cn := RX11) (T := TX11) (N := 32) rfl rfl mk_X11_isSet w_1624 w_1626 w_51 w_1627 ⟨Nat.le_of_ble_eq_true rfl, Nat.le_of_ble_eq_true rfl⟩ rfl (Nat.le_of_ble_eq_true rfl) ⟨Nat.le_of_ble_eq_true rfl, Nat.le_of_ble_eq_true rfl⟩ rfl dX11_rank_7) h (fun r_279 f_280 H locs p_281 h => ?_)
  obtain ⟨e_, rfl⟩ := p_281
  subst e_
  refine lv_if_eq (tgt := 25) hx hb dX11_rank_10 (by decide) (fun c_282 => ?_) (fun c_282 => ?_)
  · refine lv_iconst (v := -1) hx hb dX11_rank_25 (by decide) ?_
    exact q_iret C h hr (rfl) (Nat.le_of_ble_eq_true rfl) (Nat.le_of_ble_eq_true rfl) dX11_rank_26
  · exact absurd c_282 (by decide)
set_option maxRecDepth 100000 in
set_option maxHeartbeats 4000000 in
theorem c_X11_ratio (l : Launch) (D : va_G) (G : Nat → Nat) (b0 : Nat) (f : hM) (M : Nat → Nat) (hM : mw G f M) (p0 : Int32) (p1 : Int32) (p2 : Int32) : mI l yX11_ratio cX11_ratio 4 (.int) { frames := 2, cells := 0, slots := 0, locals := 46 } D G b0 f [.ref (M 0), .int p0, .int p1, .int p2] (fun r f1 => (-1 : Int32) = r) := by
  refine met_of (own := RX11) (by decide) rfl (Nat.le_of_ble_eq_true rfl) ?_
  intro p e s m below meth c ls C hr hini hl h
  have hl : lv_has ls 4 [(0, .ref (M 0)), (1, .int p0), (2, .int p1), (3, .int p2)] := hl
  obtain ⟨hx, hb, hml, hown, hts, hE0, hlk⟩ := id C
  obtain ⟨km0, km1, km2, km3, km4, km5⟩ := hM
  refine lv_aload_n hx hb dX11_ratio_0 rfl (lv_at hl 0 rfl) ?_
  refine lv_iconst (v := 0) hx hb dX11_ratio_1 (by decide) ?_
  refine q_put C h km0 flw_X11_75 (Or.inr ⟨_, _, _, rfl, rfl⟩) (v := .int 0) rfl rfl (Nat.le_of_ble_eq_true rfl) dX11_ratio_2 (fun H locs h => ?_)
  have h : hw D b0 s.heap (hu f (M 0) (.inr (12, [.int 0, .ref (M 1), .int 0, .int 0, .int 0, .ref (M 2), .ref (M 3), .ref (M 4), .ref (M 5), .ref (M 6), .int 0, .int 0, .ref (M 7), .ref (M 8), .int 0, .ref (M 9), .ref (M 10), .ref (M 11), .long 0, .ref (M 12), .ref (M 13), .ref (M 14), .ref (M 15), .ref (M 16), .ref (M 17), .ref (M 18), .ref (M 19), .int 0, .int 0, .ref (M 20), .ref (M 21), .int 0]))) H locs := h
  rw [hu_id km0] at h
  refine lv_aload_n hx hb dX11_ratio_5 rfl (lv_at hl 0 rfl) ?_
  refine lv_iload_n hx hb dX11_ratio_6 rfl (lv_at hl 1 rfl) ?_
  refine k_i (r_V C h hl (As := [.int p0]) (rest := []) (c_X11_isSet l D G b0 f M ⟨km0, km1, km2, km3, km4, km5⟩ p0) km0 (Cn := RX11) (T := TX11) (N := 32) rfl rfl mk_X11_isSet w_1624 w_1626 w_51 w_1627 ⟨Nat.le_of_ble_eq_true rfl, Nat.le_of_ble_eq_true rfl⟩ rfl (Nat.le_of_ble_eq_true rfl) ⟨Nat.le_of_ble_eq_true rfl, Nat.le_of_ble_eq_true rfl⟩ rfl dX11_ratio_7) h (fun r_283 f_284 H locs p_285 h => ?_)
  obtain ⟨e_, rfl⟩ := p_285
  subst e_
  refine lv_if_eq (tgt := 37) hx hb dX11_ratio_10 (by decide) (fun c_286 => ?_) (fun c_286 => ?_)
  · refine lv_iconst (v := -1) hx hb dX11_ratio_37 (by decide) ?_
    exact q_iret C h hr (rfl) (Nat.le_of_ble_eq_true rfl) (Nat.le_of_ble_eq_true rfl) dX11_ratio_38
  · exact absurd c_286 (by decide)
set_option maxRecDepth 100000 in
set_option maxHeartbeats 4000000 in
theorem c_X11_hankel (l : Launch) (D : va_G) (G : Nat → Nat) (b0 : Nat) (f : hM) (M : Nat → Nat) (hM : mw G f M) (p0 : Int32) (p1 : Int32) (p2 : Int32) : mI l yX11_hankel cX11_hankel 6 (.int) { frames := 2, cells := 0, slots := 0, locals := 46 } D G b0 f [.ref (M 0), .int p0, .int p1, .int p2] (fun r f1 => (-1 : Int32) = r) := by
  refine met_of (own := RX11) (by decide) rfl (Nat.le_of_ble_eq_true rfl) ?_
  intro p e s m below meth c ls C hr hini hl h
  have hl : lv_has ls 6 [(0, .ref (M 0)), (1, .int p0), (2, .int p1), (3, .int p2)] := hl
  obtain ⟨hx, hb, hml, hown, hts, hE0, hlk⟩ := id C
  obtain ⟨km0, km1, km2, km3, km4, km5⟩ := hM
  refine lv_aload_n hx hb dX11_hankel_0 rfl (lv_at hl 0 rfl) ?_
  refine lv_iconst (v := 0) hx hb dX11_hankel_1 (by decide) ?_
  refine q_put C h km0 flw_X11_75 (Or.inr ⟨_, _, _, rfl, rfl⟩) (v := .int 0) rfl rfl (Nat.le_of_ble_eq_true rfl) dX11_hankel_2 (fun H locs h => ?_)
  have h : hw D b0 s.heap (hu f (M 0) (.inr (12, [.int 0, .ref (M 1), .int 0, .int 0, .int 0, .ref (M 2), .ref (M 3), .ref (M 4), .ref (M 5), .ref (M 6), .int 0, .int 0, .ref (M 7), .ref (M 8), .int 0, .ref (M 9), .ref (M 10), .ref (M 11), .long 0, .ref (M 12), .ref (M 13), .ref (M 14), .ref (M 15), .ref (M 16), .ref (M 17), .ref (M 18), .ref (M 19), .int 0, .int 0, .ref (M 20), .ref (M 21), .int 0]))) H locs := h
  rw [hu_id km0] at h
  refine lv_aload_n hx hb dX11_hankel_5 rfl (lv_at hl 0 rfl) ?_
  refine lv_iload_n hx hb dX11_hankel_6 rfl (lv_at hl 1 rfl) ?_
  refine k_i (r_V C h hl (As := [.int p0]) (rest := []) (c_X11_isSet l D G b0 f M ⟨km0, km1, km2, km3, km4, km5⟩ p0) km0 (Cn := RX11) (T := TX11) (N := 32) rfl rfl mk_X11_isSet w_1624 w_1626 w_51 w_1627 ⟨Nat.le_of_ble_eq_true rfl, Nat.le_of_ble_eq_true rfl⟩ rfl (Nat.le_of_ble_eq_true rfl) ⟨Nat.le_of_ble_eq_true rfl, Nat.le_of_ble_eq_true rfl⟩ rfl dX11_hankel_7) h (fun r_287 f_288 H locs p_289 h => ?_)
  obtain ⟨e_, rfl⟩ := p_289
  subst e_
  refine lv_if_eq (tgt := 37) hx hb dX11_hankel_10 (by decide) (fun c_290 => ?_) (fun c_290 => ?_)
  · refine lv_iconst (v := -1) hx hb dX11_hankel_37 (by decide) ?_
    exact q_iret C h hr (rfl) (Nat.le_of_ble_eq_true rfl) (Nat.le_of_ble_eq_true rfl) dX11_hankel_38
  · exact absurd c_290 (by decide)
set_option maxRecDepth 100000 in
set_option maxHeartbeats 4000000 in
theorem c_X11_convolved (l : Launch) (D : va_G) (G : Nat → Nat) (b0 : Nat) (f : hM) (M : Nat → Nat) (hM : mw G f M) (p0 : Int32) (p1 : Int32) (p2 : Int32) (p3 : Int32) (p4 : Int32) : mI l yX11_convolved cX11_convolved 9 (.int) { frames := 2, cells := 0, slots := 0, locals := 46 } D G b0 f [.ref (M 0), .int p0, .int p1, .int p2, .int p3, .int p4] (fun r f1 => (-1 : Int32) = r) := by
  refine met_of (own := RX11) (by decide) rfl (Nat.le_of_ble_eq_true rfl) ?_
  intro p e s m below meth c ls C hr hini hl h
  have hl : lv_has ls 9 [(0, .ref (M 0)), (1, .int p0), (2, .int p1), (3, .int p2), (4, .int p3), (5, .int p4)] := hl
  obtain ⟨hx, hb, hml, hown, hts, hE0, hlk⟩ := id C
  obtain ⟨km0, km1, km2, km3, km4, km5⟩ := hM
  refine lv_aload_n hx hb dX11_convolved_0 rfl (lv_at hl 0 rfl) ?_
  refine lv_iconst (v := 0) hx hb dX11_convolved_1 (by decide) ?_
  refine q_put C h km0 flw_X11_75 (Or.inr ⟨_, _, _, rfl, rfl⟩) (v := .int 0) rfl rfl (Nat.le_of_ble_eq_true rfl) dX11_convolved_2 (fun H locs h => ?_)
  have h : hw D b0 s.heap (hu f (M 0) (.inr (12, [.int 0, .ref (M 1), .int 0, .int 0, .int 0, .ref (M 2), .ref (M 3), .ref (M 4), .ref (M 5), .ref (M 6), .int 0, .int 0, .ref (M 7), .ref (M 8), .int 0, .ref (M 9), .ref (M 10), .ref (M 11), .long 0, .ref (M 12), .ref (M 13), .ref (M 14), .ref (M 15), .ref (M 16), .ref (M 17), .ref (M 18), .ref (M 19), .int 0, .int 0, .ref (M 20), .ref (M 21), .int 0]))) H locs := h
  rw [hu_id km0] at h
  refine lv_aload_n hx hb dX11_convolved_5 rfl (lv_at hl 0 rfl) ?_
  refine lv_iload_n hx hb dX11_convolved_6 rfl (lv_at hl 1 rfl) ?_
  refine k_i (r_V C h hl (As := [.int p0]) (rest := []) (c_X11_isSet l D G b0 f M ⟨km0, km1, km2, km3, km4, km5⟩ p0) km0 (Cn := RX11) (T := TX11) (N := 32) rfl rfl mk_X11_isSet w_1624 w_1626 w_51 w_1627 ⟨Nat.le_of_ble_eq_true rfl, Nat.le_of_ble_eq_true rfl⟩ rfl (Nat.le_of_ble_eq_true rfl) ⟨Nat.le_of_ble_eq_true rfl, Nat.le_of_ble_eq_true rfl⟩ rfl dX11_convolved_7) h (fun r_291 f_292 H locs p_293 h => ?_)
  obtain ⟨e_, rfl⟩ := p_293
  subst e_
  refine lv_if_eq (tgt := 54) hx hb dX11_convolved_10 (by decide) (fun c_294 => ?_) (fun c_294 => ?_)
  · refine lv_iconst (v := -1) hx hb dX11_convolved_54 (by decide) ?_
    exact q_iret C h hr (rfl) (Nat.le_of_ble_eq_true rfl) (Nat.le_of_ble_eq_true rfl) dX11_convolved_55
  · exact absurd c_294 (by decide)
set_option maxRecDepth 100000 in
set_option maxHeartbeats 4000000 in
theorem c_X11_out (l : Launch) (D : va_G) (G : Nat → Nat) (b0 : Nat) (f : hM) (M : Nat → Nat) (hM : mw G f M) (p0 : Int32) (p1 : Int32) : mI l yX11_out cX11_out 9 (.int) { frames := 2, cells := 0, slots := 0, locals := 46 } D G b0 f [.ref (M 0), .int p0, .int p1] (fun r f1 => (-1 : Int32) = r) := by
  refine met_of (own := RX11) (by decide) rfl (Nat.le_of_ble_eq_true rfl) ?_
  intro p e s m below meth c ls C hr hini hl h
  have hl : lv_has ls 9 [(0, .ref (M 0)), (1, .int p0), (2, .int p1)] := hl
  obtain ⟨hx, hb, hml, hown, hts, hE0, hlk⟩ := id C
  obtain ⟨km0, km1, km2, km3, km4, km5⟩ := hM
  refine lv_aload_n hx hb dX11_out_0 rfl (lv_at hl 0 rfl) ?_
  refine lv_iconst (v := 0) hx hb dX11_out_1 (by decide) ?_
  refine q_put C h km0 flw_X11_75 (Or.inr ⟨_, _, _, rfl, rfl⟩) (v := .int 0) rfl rfl (Nat.le_of_ble_eq_true rfl) dX11_out_2 (fun H locs h => ?_)
  have h : hw D b0 s.heap (hu f (M 0) (.inr (12, [.int 0, .ref (M 1), .int 0, .int 0, .int 0, .ref (M 2), .ref (M 3), .ref (M 4), .ref (M 5), .ref (M 6), .int 0, .int 0, .ref (M 7), .ref (M 8), .int 0, .ref (M 9), .ref (M 10), .ref (M 11), .long 0, .ref (M 12), .ref (M 13), .ref (M 14), .ref (M 15), .ref (M 16), .ref (M 17), .ref (M 18), .ref (M 19), .int 0, .int 0, .ref (M 20), .ref (M 21), .int 0]))) H locs := h
  rw [hu_id km0] at h
  refine lv_aload_n hx hb dX11_out_5 rfl (lv_at hl 0 rfl) ?_
  refine lv_iload_n hx hb dX11_out_6 rfl (lv_at hl 1 rfl) ?_
  refine k_i (r_V C h hl (As := [.int p0]) (rest := []) (c_X11_isSet l D G b0 f M ⟨km0, km1, km2, km3, km4, km5⟩ p0) km0 (Cn := RX11) (T := TX11) (N := 32) rfl rfl mk_X11_isSet w_1624 w_1626 w_51 w_1627 ⟨Nat.le_of_ble_eq_true rfl, Nat.le_of_ble_eq_true rfl⟩ rfl (Nat.le_of_ble_eq_true rfl) ⟨Nat.le_of_ble_eq_true rfl, Nat.le_of_ble_eq_true rfl⟩ rfl dX11_out_7) h (fun r_295 f_296 H locs p_297 h => ?_)
  obtain ⟨e_, rfl⟩ := p_297
  subst e_
  refine lv_if_eq (tgt := 20) hx hb dX11_out_10 (by decide) (fun c_298 => ?_) (fun c_298 => ?_)
  · refine lv_iconst (v := -1) hx hb dX11_out_20 (by decide) ?_
    exact q_iret C h hr (rfl) (Nat.le_of_ble_eq_true rfl) (Nat.le_of_ble_eq_true rfl) dX11_out_21
  · exact absurd c_298 (by decide)
set_option maxRecDepth 100000 in
set_option maxHeartbeats 4000000 in
theorem c_X11_arches (l : Launch) (D : va_G) (G : Nat → Nat) (b0 : Nat) (f : hM) (M : Nat → Nat) (hM : mw G f M) (p0 : Int32) (p1 : Int32) : mI l yX11_arches cX11_arches 7 (.int) { frames := 2, cells := 0, slots := 0, locals := 46 } D G b0 f [.ref (M 0), .int p0, .int p1] (fun r f1 => (-1 : Int32) = r) := by
  refine met_of (own := RX11) (by decide) rfl (Nat.le_of_ble_eq_true rfl) ?_
  intro p e s m below meth c ls C hr hini hl h
  have hl : lv_has ls 7 [(0, .ref (M 0)), (1, .int p0), (2, .int p1)] := hl
  obtain ⟨hx, hb, hml, hown, hts, hE0, hlk⟩ := id C
  obtain ⟨km0, km1, km2, km3, km4, km5⟩ := hM
  refine lv_aload_n hx hb dX11_arches_0 rfl (lv_at hl 0 rfl) ?_
  refine lv_iconst (v := 0) hx hb dX11_arches_1 (by decide) ?_
  refine q_put C h km0 flw_X11_75 (Or.inr ⟨_, _, _, rfl, rfl⟩) (v := .int 0) rfl rfl (Nat.le_of_ble_eq_true rfl) dX11_arches_2 (fun H locs h => ?_)
  have h : hw D b0 s.heap (hu f (M 0) (.inr (12, [.int 0, .ref (M 1), .int 0, .int 0, .int 0, .ref (M 2), .ref (M 3), .ref (M 4), .ref (M 5), .ref (M 6), .int 0, .int 0, .ref (M 7), .ref (M 8), .int 0, .ref (M 9), .ref (M 10), .ref (M 11), .long 0, .ref (M 12), .ref (M 13), .ref (M 14), .ref (M 15), .ref (M 16), .ref (M 17), .ref (M 18), .ref (M 19), .int 0, .int 0, .ref (M 20), .ref (M 21), .int 0]))) H locs := h
  rw [hu_id km0] at h
  refine lv_aload_n hx hb dX11_arches_5 rfl (lv_at hl 0 rfl) ?_
  refine lv_iload_n hx hb dX11_arches_6 rfl (lv_at hl 1 rfl) ?_
  refine k_i (r_V C h hl (As := [.int p0]) (rest := []) (c_X11_isSet l D G b0 f M ⟨km0, km1, km2, km3, km4, km5⟩ p0) km0 (Cn := RX11) (T := TX11) (N := 32) rfl rfl mk_X11_isSet w_1624 w_1626 w_51 w_1627 ⟨Nat.le_of_ble_eq_true rfl, Nat.le_of_ble_eq_true rfl⟩ rfl (Nat.le_of_ble_eq_true rfl) ⟨Nat.le_of_ble_eq_true rfl, Nat.le_of_ble_eq_true rfl⟩ rfl dX11_arches_7) h (fun r_299 f_300 H locs p_301 h => ?_)
  obtain ⟨e_, rfl⟩ := p_301
  subst e_
  refine lv_if_eq (tgt := 25) hx hb dX11_arches_10 (by decide) (fun c_302 => ?_) (fun c_302 => ?_)
  · refine lv_iconst (v := -1) hx hb dX11_arches_25 (by decide) ?_
    exact q_iret C h hr (rfl) (Nat.le_of_ble_eq_true rfl) (Nat.le_of_ble_eq_true rfl) dX11_arches_26
  · exact absurd c_302 (by decide)
set_option maxRecDepth 100000 in
set_option maxHeartbeats 4000000 in
theorem c_X11_value (l : Launch) (D : va_G) (G : Nat → Nat) (b0 : Nat) (f : hM) (M : Nat → Nat) (hM : mw G f M) (p0 : Int32) (p1 : Int32) (p2 : Int32) (p3 : Int32) : mI l yX11_value cX11_value 13 (.int) { frames := 2, cells := 0, slots := 0, locals := 46 } D G b0 f [.ref (M 0), .int p0, .int p1, .int p2, .int p3] (fun r f1 => (-1 : Int32) = r) := by
  refine met_of (own := RX11) (by decide) rfl (Nat.le_of_ble_eq_true rfl) ?_
  intro p e s m below meth c ls C hr hini hl h
  have hl : lv_has ls 13 [(0, .ref (M 0)), (1, .int p0), (2, .int p1), (3, .int p2), (4, .int p3)] := hl
  obtain ⟨hx, hb, hml, hown, hts, hE0, hlk⟩ := id C
  obtain ⟨km0, km1, km2, km3, km4, km5⟩ := hM
  refine lv_aload_n hx hb dX11_value_0 rfl (lv_at hl 0 rfl) ?_
  refine lv_iconst (v := 0) hx hb dX11_value_1 (by decide) ?_
  refine q_put C h km0 flw_X11_75 (Or.inr ⟨_, _, _, rfl, rfl⟩) (v := .int 0) rfl rfl (Nat.le_of_ble_eq_true rfl) dX11_value_2 (fun H locs h => ?_)
  have h : hw D b0 s.heap (hu f (M 0) (.inr (12, [.int 0, .ref (M 1), .int 0, .int 0, .int 0, .ref (M 2), .ref (M 3), .ref (M 4), .ref (M 5), .ref (M 6), .int 0, .int 0, .ref (M 7), .ref (M 8), .int 0, .ref (M 9), .ref (M 10), .ref (M 11), .long 0, .ref (M 12), .ref (M 13), .ref (M 14), .ref (M 15), .ref (M 16), .ref (M 17), .ref (M 18), .ref (M 19), .int 0, .int 0, .ref (M 20), .ref (M 21), .int 0]))) H locs := h
  rw [hu_id km0] at h
  refine lv_aload_n hx hb dX11_value_5 rfl (lv_at hl 0 rfl) ?_
  refine lv_iload_n hx hb dX11_value_6 rfl (lv_at hl 1 rfl) ?_
  refine k_i (r_V C h hl (As := [.int p0]) (rest := []) (c_X11_isSet l D G b0 f M ⟨km0, km1, km2, km3, km4, km5⟩ p0) km0 (Cn := RX11) (T := TX11) (N := 32) rfl rfl mk_X11_isSet w_1624 w_1626 w_51 w_1627 ⟨Nat.le_of_ble_eq_true rfl, Nat.le_of_ble_eq_true rfl⟩ rfl (Nat.le_of_ble_eq_true rfl) ⟨Nat.le_of_ble_eq_true rfl, Nat.le_of_ble_eq_true rfl⟩ rfl dX11_value_7) h (fun r_303 f_304 H locs p_305 h => ?_)
  obtain ⟨e_, rfl⟩ := p_305
  subst e_
  refine lv_if_eq (tgt := 45) hx hb dX11_value_10 (by decide) (fun c_306 => ?_) (fun c_306 => ?_)
  · refine lv_iconst (v := -1) hx hb dX11_value_45 (by decide) ?_
    exact q_iret C h hr (rfl) (Nat.le_of_ble_eq_true rfl) (Nat.le_of_ble_eq_true rfl) dX11_value_46
  · exact absurd c_306 (by decide)
set_option maxRecDepth 100000 in
set_option maxHeartbeats 4000000 in
theorem c_X11_walk (l : Launch) (D : va_G) (G : Nat → Nat) (b0 : Nat) (f : hM) (M : Nat → Nat) (hM : mw G f M) (p0 : Int32) (p1 : Int32) (p2 : Int32) (p3 : Int32) (p4 : Int32) (p5 : Int32) : mI l yX11_walk cX11_walk 9 (.int) { frames := 2, cells := 0, slots := 0, locals := 46 } D G b0 f [.ref (M 0), .int p0, .int p1, .int p2, .int p3, .int p4, .int p5] (fun r f1 => (-1000000 : Int32) = r) := by
  refine met_of (own := RX11) (by decide) rfl (Nat.le_of_ble_eq_true rfl) ?_
  intro p e s m below meth c ls C hr hini hl h
  have hl : lv_has ls 9 [(0, .ref (M 0)), (1, .int p0), (2, .int p1), (3, .int p2), (4, .int p3), (5, .int p4), (6, .int p5)] := hl
  obtain ⟨hx, hb, hml, hown, hts, hE0, hlk⟩ := id C
  obtain ⟨km0, km1, km2, km3, km4, km5⟩ := hM
  refine lv_aload_n hx hb dX11_walk_0 rfl (lv_at hl 0 rfl) ?_
  refine lv_iconst (v := 0) hx hb dX11_walk_1 (by decide) ?_
  refine q_put C h km0 flw_X11_75 (Or.inr ⟨_, _, _, rfl, rfl⟩) (v := .int 0) rfl rfl (Nat.le_of_ble_eq_true rfl) dX11_walk_2 (fun H locs h => ?_)
  have h : hw D b0 s.heap (hu f (M 0) (.inr (12, [.int 0, .ref (M 1), .int 0, .int 0, .int 0, .ref (M 2), .ref (M 3), .ref (M 4), .ref (M 5), .ref (M 6), .int 0, .int 0, .ref (M 7), .ref (M 8), .int 0, .ref (M 9), .ref (M 10), .ref (M 11), .long 0, .ref (M 12), .ref (M 13), .ref (M 14), .ref (M 15), .ref (M 16), .ref (M 17), .ref (M 18), .ref (M 19), .int 0, .int 0, .ref (M 20), .ref (M 21), .int 0]))) H locs := h
  rw [hu_id km0] at h
  refine lv_aload_n hx hb dX11_walk_5 rfl (lv_at hl 0 rfl) ?_
  refine lv_iload_n hx hb dX11_walk_6 rfl (lv_at hl 1 rfl) ?_
  refine k_i (r_V C h hl (As := [.int p0]) (rest := []) (c_X11_isSet l D G b0 f M ⟨km0, km1, km2, km3, km4, km5⟩ p0) km0 (Cn := RX11) (T := TX11) (N := 32) rfl rfl mk_X11_isSet w_1624 w_1626 w_51 w_1627 ⟨Nat.le_of_ble_eq_true rfl, Nat.le_of_ble_eq_true rfl⟩ rfl (Nat.le_of_ble_eq_true rfl) ⟨Nat.le_of_ble_eq_true rfl, Nat.le_of_ble_eq_true rfl⟩ rfl dX11_walk_7) h (fun r_307 f_308 H locs p_309 h => ?_)
  obtain ⟨e_, rfl⟩ := p_309
  subst e_
  refine lv_if_eq (tgt := 35) hx hb dX11_walk_10 (by decide) (fun c_310 => ?_) (fun c_310 => ?_)
  · refine lv_ldcw (v := -1000000) hx hb hown (hts _ w_1791) dX11_walk_35 ?_
    exact q_iret C h hr (rfl) (Nat.le_of_ble_eq_true rfl) (Nat.le_of_ble_eq_true rfl) dX11_walk_38
  · exact absurd c_310 (by decide)
set_option maxRecDepth 100000 in
set_option maxHeartbeats 4000000 in
theorem c_X11_drawn (l : Launch) (D : va_G) (G : Nat → Nat) (b0 : Nat) (f : hM) (M : Nat → Nat) (hM : mw G f M) (p0 : Int32) (p1 : Int32) (p2 : Int32) (p3 : Int32) (p4 : Int64) (p5 : Int32) : mI l yX11_drawn cX11_drawn 12 (.int) { frames := 2, cells := 0, slots := 0, locals := 46 } D G b0 f [.ref (M 0), .int p0, .int p1, .int p2, .int p3, .long p4, .int p5] (fun r f1 => (-1000000 : Int32) = r) := by
  refine met_of (own := RX11) (by decide) rfl (Nat.le_of_ble_eq_true rfl) ?_
  intro p e s m below meth c ls C hr hini hl h
  have hl : lv_has ls 12 [(0, .ref (M 0)), (1, .int p0), (2, .int p1), (3, .int p2), (4, .int p3), (5, .long p4), (7, .int p5)] := hl
  obtain ⟨hx, hb, hml, hown, hts, hE0, hlk⟩ := id C
  obtain ⟨km0, km1, km2, km3, km4, km5⟩ := hM
  refine lv_aload_n hx hb dX11_drawn_0 rfl (lv_at hl 0 rfl) ?_
  refine lv_iconst (v := 0) hx hb dX11_drawn_1 (by decide) ?_
  refine q_put C h km0 flw_X11_75 (Or.inr ⟨_, _, _, rfl, rfl⟩) (v := .int 0) rfl rfl (Nat.le_of_ble_eq_true rfl) dX11_drawn_2 (fun H locs h => ?_)
  have h : hw D b0 s.heap (hu f (M 0) (.inr (12, [.int 0, .ref (M 1), .int 0, .int 0, .int 0, .ref (M 2), .ref (M 3), .ref (M 4), .ref (M 5), .ref (M 6), .int 0, .int 0, .ref (M 7), .ref (M 8), .int 0, .ref (M 9), .ref (M 10), .ref (M 11), .long 0, .ref (M 12), .ref (M 13), .ref (M 14), .ref (M 15), .ref (M 16), .ref (M 17), .ref (M 18), .ref (M 19), .int 0, .int 0, .ref (M 20), .ref (M 21), .int 0]))) H locs := h
  rw [hu_id km0] at h
  refine lv_aload_n hx hb dX11_drawn_5 rfl (lv_at hl 0 rfl) ?_
  refine lv_iload_n hx hb dX11_drawn_6 rfl (lv_at hl 1 rfl) ?_
  refine k_i (r_V C h hl (As := [.int p0]) (rest := []) (c_X11_isSet l D G b0 f M ⟨km0, km1, km2, km3, km4, km5⟩ p0) km0 (Cn := RX11) (T := TX11) (N := 32) rfl rfl mk_X11_isSet w_1624 w_1626 w_51 w_1627 ⟨Nat.le_of_ble_eq_true rfl, Nat.le_of_ble_eq_true rfl⟩ rfl (Nat.le_of_ble_eq_true rfl) ⟨Nat.le_of_ble_eq_true rfl, Nat.le_of_ble_eq_true rfl⟩ rfl dX11_drawn_7) h (fun r_311 f_312 H locs p_313 h => ?_)
  obtain ⟨e_, rfl⟩ := p_313
  subst e_
  refine lv_if_eq (tgt := 43) hx hb dX11_drawn_10 (by decide) (fun c_314 => ?_) (fun c_314 => ?_)
  · refine lv_ldcw (v := -1000000) hx hb hown (hts _ w_1791) dX11_drawn_43 ?_
    exact q_iret C h hr (rfl) (Nat.le_of_ble_eq_true rfl) (Nat.le_of_ble_eq_true rfl) dX11_drawn_46
  · exact absurd c_314 (by decide)
set_option maxRecDepth 100000 in
set_option maxHeartbeats 4000000 in
theorem c_X11_peak (l : Launch) (D : va_G) (G : Nat → Nat) (b0 : Nat) (f : hM) (M : Nat → Nat) (hM : mw G f M) (p0 : Int32) (p1 : Int32) (p2 : Int32) : mI l yX11_peak cX11_peak 10 (.int) { frames := 2, cells := 0, slots := 0, locals := 46 } D G b0 f [.ref (M 0), .int p0, .int p1, .int p2] (fun r f1 => (-1000000 : Int32) = r) := by
  refine met_of (own := RX11) (by decide) rfl (Nat.le_of_ble_eq_true rfl) ?_
  intro p e s m below meth c ls C hr hini hl h
  have hl : lv_has ls 10 [(0, .ref (M 0)), (1, .int p0), (2, .int p1), (3, .int p2)] := hl
  obtain ⟨hx, hb, hml, hown, hts, hE0, hlk⟩ := id C
  obtain ⟨km0, km1, km2, km3, km4, km5⟩ := hM
  refine lv_aload_n hx hb dX11_peak_0 rfl (lv_at hl 0 rfl) ?_
  refine lv_iconst (v := 0) hx hb dX11_peak_1 (by decide) ?_
  refine q_put C h km0 flw_X11_75 (Or.inr ⟨_, _, _, rfl, rfl⟩) (v := .int 0) rfl rfl (Nat.le_of_ble_eq_true rfl) dX11_peak_2 (fun H locs h => ?_)
  have h : hw D b0 s.heap (hu f (M 0) (.inr (12, [.int 0, .ref (M 1), .int 0, .int 0, .int 0, .ref (M 2), .ref (M 3), .ref (M 4), .ref (M 5), .ref (M 6), .int 0, .int 0, .ref (M 7), .ref (M 8), .int 0, .ref (M 9), .ref (M 10), .ref (M 11), .long 0, .ref (M 12), .ref (M 13), .ref (M 14), .ref (M 15), .ref (M 16), .ref (M 17), .ref (M 18), .ref (M 19), .int 0, .int 0, .ref (M 20), .ref (M 21), .int 0]))) H locs := h
  rw [hu_id km0] at h
  refine lv_aload_n hx hb dX11_peak_5 rfl (lv_at hl 0 rfl) ?_
  refine lv_iload_n hx hb dX11_peak_6 rfl (lv_at hl 1 rfl) ?_
  refine k_i (r_V C h hl (As := [.int p0]) (rest := []) (c_X11_isSet l D G b0 f M ⟨km0, km1, km2, km3, km4, km5⟩ p0) km0 (Cn := RX11) (T := TX11) (N := 32) rfl rfl mk_X11_isSet w_1624 w_1626 w_51 w_1627 ⟨Nat.le_of_ble_eq_true rfl, Nat.le_of_ble_eq_true rfl⟩ rfl (Nat.le_of_ble_eq_true rfl) ⟨Nat.le_of_ble_eq_true rfl, Nat.le_of_ble_eq_true rfl⟩ rfl dX11_peak_7) h (fun r_315 f_316 H locs p_317 h => ?_)
  obtain ⟨e_, rfl⟩ := p_317
  subst e_
  refine lv_if_eq (tgt := 32) hx hb dX11_peak_10 (by decide) (fun c_318 => ?_) (fun c_318 => ?_)
  · refine lv_ldcw (v := -1000000) hx hb hown (hts _ w_1791) dX11_peak_32 ?_
    exact q_iret C h hr (rfl) (Nat.le_of_ble_eq_true rfl) (Nat.le_of_ble_eq_true rfl) dX11_peak_35
  · exact absurd c_318 (by decide)
set_option maxRecDepth 100000 in
set_option maxHeartbeats 4000000 in
theorem c_X11_points (l : Launch) (D : va_G) (G : Nat → Nat) (b0 : Nat) (f : hM) (M : Nat → Nat) (hM : mw G f M) (p0 : Int32) (p1 : Int32) : mI l yX11_points cX11_points 5 (.int) { frames := 2, cells := 0, slots := 0, locals := 46 } D G b0 f [.ref (M 0), .int p0, .int p1] (fun r f1 => (-1 : Int32) = r) := by
  refine met_of (own := RX11) (by decide) rfl (Nat.le_of_ble_eq_true rfl) ?_
  intro p e s m below meth c ls C hr hini hl h
  have hl : lv_has ls 5 [(0, .ref (M 0)), (1, .int p0), (2, .int p1)] := hl
  obtain ⟨hx, hb, hml, hown, hts, hE0, hlk⟩ := id C
  obtain ⟨km0, km1, km2, km3, km4, km5⟩ := hM
  refine lv_aload_n hx hb dX11_points_0 rfl (lv_at hl 0 rfl) ?_
  refine lv_iconst (v := 0) hx hb dX11_points_1 (by decide) ?_
  refine q_put C h km0 flw_X11_75 (Or.inr ⟨_, _, _, rfl, rfl⟩) (v := .int 0) rfl rfl (Nat.le_of_ble_eq_true rfl) dX11_points_2 (fun H locs h => ?_)
  have h : hw D b0 s.heap (hu f (M 0) (.inr (12, [.int 0, .ref (M 1), .int 0, .int 0, .int 0, .ref (M 2), .ref (M 3), .ref (M 4), .ref (M 5), .ref (M 6), .int 0, .int 0, .ref (M 7), .ref (M 8), .int 0, .ref (M 9), .ref (M 10), .ref (M 11), .long 0, .ref (M 12), .ref (M 13), .ref (M 14), .ref (M 15), .ref (M 16), .ref (M 17), .ref (M 18), .ref (M 19), .int 0, .int 0, .ref (M 20), .ref (M 21), .int 0]))) H locs := h
  rw [hu_id km0] at h
  refine lv_aload_n hx hb dX11_points_5 rfl (lv_at hl 0 rfl) ?_
  refine lv_iload_n hx hb dX11_points_6 rfl (lv_at hl 1 rfl) ?_
  refine k_i (r_V C h hl (As := [.int p0]) (rest := []) (c_X11_isSet l D G b0 f M ⟨km0, km1, km2, km3, km4, km5⟩ p0) km0 (Cn := RX11) (T := TX11) (N := 32) rfl rfl mk_X11_isSet w_1624 w_1626 w_51 w_1627 ⟨Nat.le_of_ble_eq_true rfl, Nat.le_of_ble_eq_true rfl⟩ rfl (Nat.le_of_ble_eq_true rfl) ⟨Nat.le_of_ble_eq_true rfl, Nat.le_of_ble_eq_true rfl⟩ rfl dX11_points_7) h (fun r_319 f_320 H locs p_321 h => ?_)
  obtain ⟨e_, rfl⟩ := p_321
  subst e_
  refine lv_if_eq (tgt := 20) hx hb dX11_points_10 (by decide) (fun c_322 => ?_) (fun c_322 => ?_)
  · refine lv_iconst (v := -1) hx hb dX11_points_20 (by decide) ?_
    exact q_iret C h hr (rfl) (Nat.le_of_ble_eq_true rfl) (Nat.le_of_ble_eq_true rfl) dX11_points_21
  · exact absurd c_322 (by decide)
set_option maxRecDepth 100000 in
set_option maxHeartbeats 4000000 in
theorem c_X11_fewest (l : Launch) (D : va_G) (G : Nat → Nat) (b0 : Nat) (f : hM) (M : Nat → Nat) (hM : mw G f M) (p0 : Int32) (p1 : Int32) (p2 : Int32) : mI l yX11_fewest cX11_fewest 4 (.int) { frames := 2, cells := 0, slots := 0, locals := 46 } D G b0 f [.ref (M 0), .int p0, .int p1, .int p2] (fun r f1 => (-1 : Int32) = r) := by
  refine met_of (own := RX11) (by decide) rfl (Nat.le_of_ble_eq_true rfl) ?_
  intro p e s m below meth c ls C hr hini hl h
  have hl : lv_has ls 4 [(0, .ref (M 0)), (1, .int p0), (2, .int p1), (3, .int p2)] := hl
  obtain ⟨hx, hb, hml, hown, hts, hE0, hlk⟩ := id C
  obtain ⟨km0, km1, km2, km3, km4, km5⟩ := hM
  refine lv_aload_n hx hb dX11_fewest_0 rfl (lv_at hl 0 rfl) ?_
  refine lv_iconst (v := 0) hx hb dX11_fewest_1 (by decide) ?_
  refine q_put C h km0 flw_X11_75 (Or.inr ⟨_, _, _, rfl, rfl⟩) (v := .int 0) rfl rfl (Nat.le_of_ble_eq_true rfl) dX11_fewest_2 (fun H locs h => ?_)
  have h : hw D b0 s.heap (hu f (M 0) (.inr (12, [.int 0, .ref (M 1), .int 0, .int 0, .int 0, .ref (M 2), .ref (M 3), .ref (M 4), .ref (M 5), .ref (M 6), .int 0, .int 0, .ref (M 7), .ref (M 8), .int 0, .ref (M 9), .ref (M 10), .ref (M 11), .long 0, .ref (M 12), .ref (M 13), .ref (M 14), .ref (M 15), .ref (M 16), .ref (M 17), .ref (M 18), .ref (M 19), .int 0, .int 0, .ref (M 20), .ref (M 21), .int 0]))) H locs := h
  rw [hu_id km0] at h
  refine lv_aload_n hx hb dX11_fewest_5 rfl (lv_at hl 0 rfl) ?_
  refine lv_iload_n hx hb dX11_fewest_6 rfl (lv_at hl 1 rfl) ?_
  refine k_i (r_V C h hl (As := [.int p0]) (rest := []) (c_X11_isSet l D G b0 f M ⟨km0, km1, km2, km3, km4, km5⟩ p0) km0 (Cn := RX11) (T := TX11) (N := 32) rfl rfl mk_X11_isSet w_1624 w_1626 w_51 w_1627 ⟨Nat.le_of_ble_eq_true rfl, Nat.le_of_ble_eq_true rfl⟩ rfl (Nat.le_of_ble_eq_true rfl) ⟨Nat.le_of_ble_eq_true rfl, Nat.le_of_ble_eq_true rfl⟩ rfl dX11_fewest_7) h (fun r_323 f_324 H locs p_325 h => ?_)
  obtain ⟨e_, rfl⟩ := p_325
  subst e_
  refine lv_if_eq (tgt := 21) hx hb dX11_fewest_10 (by decide) (fun c_326 => ?_) (fun c_326 => ?_)
  · refine lv_iconst (v := -1) hx hb dX11_fewest_21 (by decide) ?_
    exact q_iret C h hr (rfl) (Nat.le_of_ble_eq_true rfl) (Nat.le_of_ble_eq_true rfl) dX11_fewest_22
  · exact absurd c_326 (by decide)
set_option maxRecDepth 100000 in
set_option maxHeartbeats 4000000 in
theorem c_X11_period (l : Launch) (D : va_G) (G : Nat → Nat) (b0 : Nat) (f : hM) (M : Nat → Nat) (hM : mw G f M) (p0 : Int32) : mI l yX11_period cX11_period 4 (.int) { frames := 2, cells := 0, slots := 0, locals := 46 } D G b0 f [.ref (M 0), .int p0] (fun r f1 => (-1 : Int32) = r) := by
  refine met_of (own := RX11) (by decide) rfl (Nat.le_of_ble_eq_true rfl) ?_
  intro p e s m below meth c ls C hr hini hl h
  have hl : lv_has ls 4 [(0, .ref (M 0)), (1, .int p0)] := hl
  obtain ⟨hx, hb, hml, hown, hts, hE0, hlk⟩ := id C
  obtain ⟨km0, km1, km2, km3, km4, km5⟩ := hM
  refine lv_aload_n hx hb dX11_period_0 rfl (lv_at hl 0 rfl) ?_
  refine lv_iconst (v := 0) hx hb dX11_period_1 (by decide) ?_
  refine q_put C h km0 flw_X11_75 (Or.inr ⟨_, _, _, rfl, rfl⟩) (v := .int 0) rfl rfl (Nat.le_of_ble_eq_true rfl) dX11_period_2 (fun H locs h => ?_)
  have h : hw D b0 s.heap (hu f (M 0) (.inr (12, [.int 0, .ref (M 1), .int 0, .int 0, .int 0, .ref (M 2), .ref (M 3), .ref (M 4), .ref (M 5), .ref (M 6), .int 0, .int 0, .ref (M 7), .ref (M 8), .int 0, .ref (M 9), .ref (M 10), .ref (M 11), .long 0, .ref (M 12), .ref (M 13), .ref (M 14), .ref (M 15), .ref (M 16), .ref (M 17), .ref (M 18), .ref (M 19), .int 0, .int 0, .ref (M 20), .ref (M 21), .int 0]))) H locs := h
  rw [hu_id km0] at h
  refine lv_aload_n hx hb dX11_period_5 rfl (lv_at hl 0 rfl) ?_
  refine lv_iload_n hx hb dX11_period_6 rfl (lv_at hl 1 rfl) ?_
  refine k_i (r_V C h hl (As := [.int p0]) (rest := []) (c_X11_isSet l D G b0 f M ⟨km0, km1, km2, km3, km4, km5⟩ p0) km0 (Cn := RX11) (T := TX11) (N := 32) rfl rfl mk_X11_isSet w_1624 w_1626 w_51 w_1627 ⟨Nat.le_of_ble_eq_true rfl, Nat.le_of_ble_eq_true rfl⟩ rfl (Nat.le_of_ble_eq_true rfl) ⟨Nat.le_of_ble_eq_true rfl, Nat.le_of_ble_eq_true rfl⟩ rfl dX11_period_7) h (fun r_327 f_328 H locs p_329 h => ?_)
  obtain ⟨e_, rfl⟩ := p_329
  subst e_
  refine lv_if_ne (tgt := 15) hx hb dX11_period_10 (by decide) (fun c_330 => ?_) (fun c_330 => ?_)
  · exact absurd c_330 (by decide)
  · refine lv_iconst (v := -1) hx hb dX11_period_13 (by decide) ?_
    exact q_iret C h hr (rfl) (Nat.le_of_ble_eq_true rfl) (Nat.le_of_ble_eq_true rfl) dX11_period_14
set_option maxRecDepth 100000 in
set_option maxHeartbeats 4000000 in
theorem c_X11_meet (l : Launch) (D : va_G) (G : Nat → Nat) (b0 : Nat) (f : hM) (M : Nat → Nat) (hM : mw G f M) (p0 : Int32) (p1 : Int32) (p2 : Int32) : mI l yX11_meet cX11_meet 7 (.int) { frames := 2, cells := 0, slots := 0, locals := 46 } D G b0 f [.ref (M 0), .int p0, .int p1, .int p2] (fun r f1 => (-1 : Int32) = r) := by
  refine met_of (own := RX11) (by decide) rfl (Nat.le_of_ble_eq_true rfl) ?_
  intro p e s m below meth c ls C hr hini hl h
  have hl : lv_has ls 7 [(0, .ref (M 0)), (1, .int p0), (2, .int p1), (3, .int p2)] := hl
  obtain ⟨hx, hb, hml, hown, hts, hE0, hlk⟩ := id C
  obtain ⟨km0, km1, km2, km3, km4, km5⟩ := hM
  refine lv_aload_n hx hb dX11_meet_0 rfl (lv_at hl 0 rfl) ?_
  refine lv_iconst (v := 0) hx hb dX11_meet_1 (by decide) ?_
  refine q_put C h km0 flw_X11_75 (Or.inr ⟨_, _, _, rfl, rfl⟩) (v := .int 0) rfl rfl (Nat.le_of_ble_eq_true rfl) dX11_meet_2 (fun H locs h => ?_)
  have h : hw D b0 s.heap (hu f (M 0) (.inr (12, [.int 0, .ref (M 1), .int 0, .int 0, .int 0, .ref (M 2), .ref (M 3), .ref (M 4), .ref (M 5), .ref (M 6), .int 0, .int 0, .ref (M 7), .ref (M 8), .int 0, .ref (M 9), .ref (M 10), .ref (M 11), .long 0, .ref (M 12), .ref (M 13), .ref (M 14), .ref (M 15), .ref (M 16), .ref (M 17), .ref (M 18), .ref (M 19), .int 0, .int 0, .ref (M 20), .ref (M 21), .int 0]))) H locs := h
  rw [hu_id km0] at h
  refine lv_aload_n hx hb dX11_meet_5 rfl (lv_at hl 0 rfl) ?_
  refine lv_iload_n hx hb dX11_meet_6 rfl (lv_at hl 1 rfl) ?_
  refine k_i (r_V C h hl (As := [.int p0]) (rest := []) (c_X11_isSet l D G b0 f M ⟨km0, km1, km2, km3, km4, km5⟩ p0) km0 (Cn := RX11) (T := TX11) (N := 32) rfl rfl mk_X11_isSet w_1624 w_1626 w_51 w_1627 ⟨Nat.le_of_ble_eq_true rfl, Nat.le_of_ble_eq_true rfl⟩ rfl (Nat.le_of_ble_eq_true rfl) ⟨Nat.le_of_ble_eq_true rfl, Nat.le_of_ble_eq_true rfl⟩ rfl dX11_meet_7) h (fun r_331 f_332 H locs p_333 h => ?_)
  obtain ⟨e_, rfl⟩ := p_333
  subst e_
  refine lv_if_eq (tgt := 28) hx hb dX11_meet_10 (by decide) (fun c_334 => ?_) (fun c_334 => ?_)
  · refine lv_iconst (v := -1) hx hb dX11_meet_28 (by decide) ?_
    exact q_iret C h hr (rfl) (Nat.le_of_ble_eq_true rfl) (Nat.le_of_ble_eq_true rfl) dX11_meet_29
  · exact absurd c_334 (by decide)
set_option maxRecDepth 100000 in
set_option maxHeartbeats 4000000 in
theorem c_X11_kernel (l : Launch) (D : va_G) (G : Nat → Nat) (b0 : Nat) (f : hM) (M : Nat → Nat) (hM : mw G f M) (p0 : Int32) (p1 : Int32) (p2 : Int32) : mI l yX11_kernel cX11_kernel 7 (.int) { frames := 2, cells := 0, slots := 0, locals := 46 } D G b0 f [.ref (M 0), .int p0, .int p1, .int p2] (fun r f1 => (-1 : Int32) = r) := by
  refine met_of (own := RX11) (by decide) rfl (Nat.le_of_ble_eq_true rfl) ?_
  intro p e s m below meth c ls C hr hini hl h
  have hl : lv_has ls 7 [(0, .ref (M 0)), (1, .int p0), (2, .int p1), (3, .int p2)] := hl
  obtain ⟨hx, hb, hml, hown, hts, hE0, hlk⟩ := id C
  obtain ⟨km0, km1, km2, km3, km4, km5⟩ := hM
  refine lv_aload_n hx hb dX11_kernel_0 rfl (lv_at hl 0 rfl) ?_
  refine lv_iconst (v := 0) hx hb dX11_kernel_1 (by decide) ?_
  refine q_put C h km0 flw_X11_75 (Or.inr ⟨_, _, _, rfl, rfl⟩) (v := .int 0) rfl rfl (Nat.le_of_ble_eq_true rfl) dX11_kernel_2 (fun H locs h => ?_)
  have h : hw D b0 s.heap (hu f (M 0) (.inr (12, [.int 0, .ref (M 1), .int 0, .int 0, .int 0, .ref (M 2), .ref (M 3), .ref (M 4), .ref (M 5), .ref (M 6), .int 0, .int 0, .ref (M 7), .ref (M 8), .int 0, .ref (M 9), .ref (M 10), .ref (M 11), .long 0, .ref (M 12), .ref (M 13), .ref (M 14), .ref (M 15), .ref (M 16), .ref (M 17), .ref (M 18), .ref (M 19), .int 0, .int 0, .ref (M 20), .ref (M 21), .int 0]))) H locs := h
  rw [hu_id km0] at h
  refine lv_aload_n hx hb dX11_kernel_5 rfl (lv_at hl 0 rfl) ?_
  refine lv_iload_n hx hb dX11_kernel_6 rfl (lv_at hl 1 rfl) ?_
  refine k_i (r_V C h hl (As := [.int p0]) (rest := []) (c_X11_isSet l D G b0 f M ⟨km0, km1, km2, km3, km4, km5⟩ p0) km0 (Cn := RX11) (T := TX11) (N := 32) rfl rfl mk_X11_isSet w_1624 w_1626 w_51 w_1627 ⟨Nat.le_of_ble_eq_true rfl, Nat.le_of_ble_eq_true rfl⟩ rfl (Nat.le_of_ble_eq_true rfl) ⟨Nat.le_of_ble_eq_true rfl, Nat.le_of_ble_eq_true rfl⟩ rfl dX11_kernel_7) h (fun r_335 f_336 H locs p_337 h => ?_)
  obtain ⟨e_, rfl⟩ := p_337
  subst e_
  refine lv_if_eq (tgt := 21) hx hb dX11_kernel_10 (by decide) (fun c_338 => ?_) (fun c_338 => ?_)
  · refine lv_iconst (v := -1) hx hb dX11_kernel_21 (by decide) ?_
    exact q_iret C h hr (rfl) (Nat.le_of_ble_eq_true rfl) (Nat.le_of_ble_eq_true rfl) dX11_kernel_22
  · exact absurd c_338 (by decide)
set_option maxRecDepth 100000 in
set_option maxHeartbeats 4000000 in
theorem c_X11_turned (l : Launch) (D : va_G) (G : Nat → Nat) (b0 : Nat) (f : hM) (M : Nat → Nat) (hM : mw G f M) (p0 : Int32) (p1 : Int32) (p2 : Int32) (p3 : Int32) : mI l yX11_turned cX11_turned 5 (.int) { frames := 2, cells := 0, slots := 0, locals := 46 } D G b0 f [.ref (M 0), .int p0, .int p1, .int p2, .int p3] (fun r f1 => (-1 : Int32) = r) := by
  refine met_of (own := RX11) (by decide) rfl (Nat.le_of_ble_eq_true rfl) ?_
  intro p e s m below meth c ls C hr hini hl h
  have hl : lv_has ls 5 [(0, .ref (M 0)), (1, .int p0), (2, .int p1), (3, .int p2), (4, .int p3)] := hl
  obtain ⟨hx, hb, hml, hown, hts, hE0, hlk⟩ := id C
  obtain ⟨km0, km1, km2, km3, km4, km5⟩ := hM
  refine lv_aload_n hx hb dX11_turned_0 rfl (lv_at hl 0 rfl) ?_
  refine lv_iconst (v := 0) hx hb dX11_turned_1 (by decide) ?_
  refine q_put C h km0 flw_X11_75 (Or.inr ⟨_, _, _, rfl, rfl⟩) (v := .int 0) rfl rfl (Nat.le_of_ble_eq_true rfl) dX11_turned_2 (fun H locs h => ?_)
  have h : hw D b0 s.heap (hu f (M 0) (.inr (12, [.int 0, .ref (M 1), .int 0, .int 0, .int 0, .ref (M 2), .ref (M 3), .ref (M 4), .ref (M 5), .ref (M 6), .int 0, .int 0, .ref (M 7), .ref (M 8), .int 0, .ref (M 9), .ref (M 10), .ref (M 11), .long 0, .ref (M 12), .ref (M 13), .ref (M 14), .ref (M 15), .ref (M 16), .ref (M 17), .ref (M 18), .ref (M 19), .int 0, .int 0, .ref (M 20), .ref (M 21), .int 0]))) H locs := h
  rw [hu_id km0] at h
  refine lv_aload_n hx hb dX11_turned_5 rfl (lv_at hl 0 rfl) ?_
  refine lv_iload_n hx hb dX11_turned_6 rfl (lv_at hl 1 rfl) ?_
  refine k_i (r_V C h hl (As := [.int p0]) (rest := []) (c_X11_isSet l D G b0 f M ⟨km0, km1, km2, km3, km4, km5⟩ p0) km0 (Cn := RX11) (T := TX11) (N := 32) rfl rfl mk_X11_isSet w_1624 w_1626 w_51 w_1627 ⟨Nat.le_of_ble_eq_true rfl, Nat.le_of_ble_eq_true rfl⟩ rfl (Nat.le_of_ble_eq_true rfl) ⟨Nat.le_of_ble_eq_true rfl, Nat.le_of_ble_eq_true rfl⟩ rfl dX11_turned_7) h (fun r_339 f_340 H locs p_341 h => ?_)
  obtain ⟨e_, rfl⟩ := p_341
  subst e_
  refine lv_if_eq (tgt := 44) hx hb dX11_turned_10 (by decide) (fun c_342 => ?_) (fun c_342 => ?_)
  · refine lv_iconst (v := -1) hx hb dX11_turned_44 (by decide) ?_
    exact q_iret C h hr (rfl) (Nat.le_of_ble_eq_true rfl) (Nat.le_of_ble_eq_true rfl) dX11_turned_45
  · exact absurd c_342 (by decide)
set_option maxRecDepth 100000 in
set_option maxHeartbeats 4000000 in
theorem c_X11_orbit (l : Launch) (D : va_G) (G : Nat → Nat) (b0 : Nat) (f : hM) (M : Nat → Nat) (hM : mw G f M) (p0 : Int32) (p1 : Int32) (p2 : Int32) (p3 : Int32) (p4 : Int32) : mI l yX11_orbit cX11_orbit 7 (.int) { frames := 2, cells := 0, slots := 0, locals := 46 } D G b0 f [.ref (M 0), .int p0, .int p1, .int p2, .int p3, .int p4] (fun r f1 => (-2 : Int32) = r) := by
  refine met_of (own := RX11) (by decide) rfl (Nat.le_of_ble_eq_true rfl) ?_
  intro p e s m below meth c ls C hr hini hl h
  have hl : lv_has ls 7 [(0, .ref (M 0)), (1, .int p0), (2, .int p1), (3, .int p2), (4, .int p3), (5, .int p4)] := hl
  obtain ⟨hx, hb, hml, hown, hts, hE0, hlk⟩ := id C
  obtain ⟨km0, km1, km2, km3, km4, km5⟩ := hM
  refine lv_aload_n hx hb dX11_orbit_0 rfl (lv_at hl 0 rfl) ?_
  refine lv_iconst (v := 0) hx hb dX11_orbit_1 (by decide) ?_
  refine q_put C h km0 flw_X11_75 (Or.inr ⟨_, _, _, rfl, rfl⟩) (v := .int 0) rfl rfl (Nat.le_of_ble_eq_true rfl) dX11_orbit_2 (fun H locs h => ?_)
  have h : hw D b0 s.heap (hu f (M 0) (.inr (12, [.int 0, .ref (M 1), .int 0, .int 0, .int 0, .ref (M 2), .ref (M 3), .ref (M 4), .ref (M 5), .ref (M 6), .int 0, .int 0, .ref (M 7), .ref (M 8), .int 0, .ref (M 9), .ref (M 10), .ref (M 11), .long 0, .ref (M 12), .ref (M 13), .ref (M 14), .ref (M 15), .ref (M 16), .ref (M 17), .ref (M 18), .ref (M 19), .int 0, .int 0, .ref (M 20), .ref (M 21), .int 0]))) H locs := h
  rw [hu_id km0] at h
  refine lv_aload_n hx hb dX11_orbit_5 rfl (lv_at hl 0 rfl) ?_
  refine lv_iload_n hx hb dX11_orbit_6 rfl (lv_at hl 1 rfl) ?_
  refine k_i (r_V C h hl (As := [.int p0]) (rest := []) (c_X11_isSet l D G b0 f M ⟨km0, km1, km2, km3, km4, km5⟩ p0) km0 (Cn := RX11) (T := TX11) (N := 32) rfl rfl mk_X11_isSet w_1624 w_1626 w_51 w_1627 ⟨Nat.le_of_ble_eq_true rfl, Nat.le_of_ble_eq_true rfl⟩ rfl (Nat.le_of_ble_eq_true rfl) ⟨Nat.le_of_ble_eq_true rfl, Nat.le_of_ble_eq_true rfl⟩ rfl dX11_orbit_7) h (fun r_343 f_344 H locs p_345 h => ?_)
  obtain ⟨e_, rfl⟩ := p_345
  subst e_
  refine lv_if_eq (tgt := 44) hx hb dX11_orbit_10 (by decide) (fun c_346 => ?_) (fun c_346 => ?_)
  · refine lv_bipush (v := -2) hx hb dX11_orbit_44 (by decide) ?_
    exact q_iret C h hr (rfl) (Nat.le_of_ble_eq_true rfl) (Nat.le_of_ble_eq_true rfl) dX11_orbit_46
  · exact absurd c_346 (by decide)
set_option maxRecDepth 100000 in
set_option maxHeartbeats 4000000 in
theorem c_X11_group (l : Launch) (D : va_G) (G : Nat → Nat) (b0 : Nat) (f : hM) (M : Nat → Nat) (hM : mw G f M) (p0 : Int32) : mI l yX11_group cX11_group 2 (.int) { frames := 2, cells := 0, slots := 0, locals := 46 } D G b0 f [.ref (M 0), .int p0] (fun r f1 => (-2 : Int32) = r) := by
  refine met_of (own := RX11) (by decide) rfl (Nat.le_of_ble_eq_true rfl) ?_
  intro p e s m below meth c ls C hr hini hl h
  have hl : lv_has ls 2 [(0, .ref (M 0)), (1, .int p0)] := hl
  obtain ⟨hx, hb, hml, hown, hts, hE0, hlk⟩ := id C
  obtain ⟨km0, km1, km2, km3, km4, km5⟩ := hM
  refine lv_aload_n hx hb dX11_group_0 rfl (lv_at hl 0 rfl) ?_
  refine lv_iconst (v := 0) hx hb dX11_group_1 (by decide) ?_
  refine q_put C h km0 flw_X11_75 (Or.inr ⟨_, _, _, rfl, rfl⟩) (v := .int 0) rfl rfl (Nat.le_of_ble_eq_true rfl) dX11_group_2 (fun H locs h => ?_)
  have h : hw D b0 s.heap (hu f (M 0) (.inr (12, [.int 0, .ref (M 1), .int 0, .int 0, .int 0, .ref (M 2), .ref (M 3), .ref (M 4), .ref (M 5), .ref (M 6), .int 0, .int 0, .ref (M 7), .ref (M 8), .int 0, .ref (M 9), .ref (M 10), .ref (M 11), .long 0, .ref (M 12), .ref (M 13), .ref (M 14), .ref (M 15), .ref (M 16), .ref (M 17), .ref (M 18), .ref (M 19), .int 0, .int 0, .ref (M 20), .ref (M 21), .int 0]))) H locs := h
  rw [hu_id km0] at h
  refine lv_aload_n hx hb dX11_group_5 rfl (lv_at hl 0 rfl) ?_
  refine lv_iload_n hx hb dX11_group_6 rfl (lv_at hl 1 rfl) ?_
  refine k_i (r_V C h hl (As := [.int p0]) (rest := []) (c_X11_isSet l D G b0 f M ⟨km0, km1, km2, km3, km4, km5⟩ p0) km0 (Cn := RX11) (T := TX11) (N := 32) rfl rfl mk_X11_isSet w_1624 w_1626 w_51 w_1627 ⟨Nat.le_of_ble_eq_true rfl, Nat.le_of_ble_eq_true rfl⟩ rfl (Nat.le_of_ble_eq_true rfl) ⟨Nat.le_of_ble_eq_true rfl, Nat.le_of_ble_eq_true rfl⟩ rfl dX11_group_7) h (fun r_347 f_348 H locs p_349 h => ?_)
  obtain ⟨e_, rfl⟩ := p_349
  subst e_
  refine lv_if_eq (tgt := 21) hx hb dX11_group_10 (by decide) (fun c_350 => ?_) (fun c_350 => ?_)
  · refine lv_bipush (v := -2) hx hb dX11_group_21 (by decide) ?_
    exact q_iret C h hr (rfl) (Nat.le_of_ble_eq_true rfl) (Nat.le_of_ble_eq_true rfl) dX11_group_23
  · exact absurd c_350 (by decide)
set_option maxRecDepth 100000 in
set_option maxHeartbeats 4000000 in
theorem c_X11_sum (l : Launch) (D : va_G) (G : Nat → Nat) (b0 : Nat) (f : hM) (M : Nat → Nat) (hM : mw G f M) (p0 : Int32) (p1 : Int32) (p2 : Int32) : mI l yX11_sum cX11_sum 10 (.int) { frames := 2, cells := 0, slots := 0, locals := 46 } D G b0 f [.ref (M 0), .int p0, .int p1, .int p2] (fun r f1 => (-2 : Int32) = r) := by
  refine met_of (own := RX11) (by decide) rfl (Nat.le_of_ble_eq_true rfl) ?_
  intro p e s m below meth c ls C hr hini hl h
  have hl : lv_has ls 10 [(0, .ref (M 0)), (1, .int p0), (2, .int p1), (3, .int p2)] := hl
  obtain ⟨hx, hb, hml, hown, hts, hE0, hlk⟩ := id C
  obtain ⟨km0, km1, km2, km3, km4, km5⟩ := hM
  refine lv_aload_n hx hb dX11_sum_0 rfl (lv_at hl 0 rfl) ?_
  refine lv_iconst (v := 0) hx hb dX11_sum_1 (by decide) ?_
  refine q_put C h km0 flw_X11_75 (Or.inr ⟨_, _, _, rfl, rfl⟩) (v := .int 0) rfl rfl (Nat.le_of_ble_eq_true rfl) dX11_sum_2 (fun H locs h => ?_)
  have h : hw D b0 s.heap (hu f (M 0) (.inr (12, [.int 0, .ref (M 1), .int 0, .int 0, .int 0, .ref (M 2), .ref (M 3), .ref (M 4), .ref (M 5), .ref (M 6), .int 0, .int 0, .ref (M 7), .ref (M 8), .int 0, .ref (M 9), .ref (M 10), .ref (M 11), .long 0, .ref (M 12), .ref (M 13), .ref (M 14), .ref (M 15), .ref (M 16), .ref (M 17), .ref (M 18), .ref (M 19), .int 0, .int 0, .ref (M 20), .ref (M 21), .int 0]))) H locs := h
  rw [hu_id km0] at h
  refine lv_aload_n hx hb dX11_sum_5 rfl (lv_at hl 0 rfl) ?_
  refine lv_iload_n hx hb dX11_sum_6 rfl (lv_at hl 1 rfl) ?_
  refine k_i (r_V C h hl (As := [.int p0]) (rest := []) (c_X11_isSet l D G b0 f M ⟨km0, km1, km2, km3, km4, km5⟩ p0) km0 (Cn := RX11) (T := TX11) (N := 32) rfl rfl mk_X11_isSet w_1624 w_1626 w_51 w_1627 ⟨Nat.le_of_ble_eq_true rfl, Nat.le_of_ble_eq_true rfl⟩ rfl (Nat.le_of_ble_eq_true rfl) ⟨Nat.le_of_ble_eq_true rfl, Nat.le_of_ble_eq_true rfl⟩ rfl dX11_sum_7) h (fun r_351 f_352 H locs p_353 h => ?_)
  obtain ⟨e_, rfl⟩ := p_353
  subst e_
  refine lv_if_eq (tgt := 21) hx hb dX11_sum_10 (by decide) (fun c_354 => ?_) (fun c_354 => ?_)
  · refine lv_bipush (v := -2) hx hb dX11_sum_21 (by decide) ?_
    exact q_iret C h hr (rfl) (Nat.le_of_ble_eq_true rfl) (Nat.le_of_ble_eq_true rfl) dX11_sum_23
  · exact absurd c_354 (by decide)
set_option maxRecDepth 100000 in
set_option maxHeartbeats 4000000 in
theorem c_X11_noUse (l : Launch) (D : va_G) (G : Nat → Nat) (b0 : Nat) (f : hM) (M : Nat → Nat) (hM : mw G f M) (p0 : Int32) : mI l yX11_noUse cX11_noUse 7 (.int) { frames := 2, cells := 0, slots := 0, locals := 46 } D G b0 f [.ref (M 0), .int p0] (fun r f1 => (-1 : Int32) = r) := by
  refine met_of (own := RX11) (by decide) rfl (Nat.le_of_ble_eq_true rfl) ?_
  intro p e s m below meth c ls C hr hini hl h
  have hl : lv_has ls 7 [(0, .ref (M 0)), (1, .int p0)] := hl
  obtain ⟨hx, hb, hml, hown, hts, hE0, hlk⟩ := id C
  obtain ⟨km0, km1, km2, km3, km4, km5⟩ := hM
  refine lv_aload_n hx hb dX11_noUse_0 rfl (lv_at hl 0 rfl) ?_
  refine lv_iconst (v := 0) hx hb dX11_noUse_1 (by decide) ?_
  refine q_put C h km0 flw_X11_75 (Or.inr ⟨_, _, _, rfl, rfl⟩) (v := .int 0) rfl rfl (Nat.le_of_ble_eq_true rfl) dX11_noUse_2 (fun H locs h => ?_)
  have h : hw D b0 s.heap (hu f (M 0) (.inr (12, [.int 0, .ref (M 1), .int 0, .int 0, .int 0, .ref (M 2), .ref (M 3), .ref (M 4), .ref (M 5), .ref (M 6), .int 0, .int 0, .ref (M 7), .ref (M 8), .int 0, .ref (M 9), .ref (M 10), .ref (M 11), .long 0, .ref (M 12), .ref (M 13), .ref (M 14), .ref (M 15), .ref (M 16), .ref (M 17), .ref (M 18), .ref (M 19), .int 0, .int 0, .ref (M 20), .ref (M 21), .int 0]))) H locs := h
  rw [hu_id km0] at h
  refine lv_aload_n hx hb dX11_noUse_5 rfl (lv_at hl 0 rfl) ?_
  refine lv_iload_n hx hb dX11_noUse_6 rfl (lv_at hl 1 rfl) ?_
  refine k_i (r_V C h hl (As := [.int p0]) (rest := []) (c_X11_isSet l D G b0 f M ⟨km0, km1, km2, km3, km4, km5⟩ p0) km0 (Cn := RX11) (T := TX11) (N := 32) rfl rfl mk_X11_isSet w_1624 w_1626 w_51 w_1627 ⟨Nat.le_of_ble_eq_true rfl, Nat.le_of_ble_eq_true rfl⟩ rfl (Nat.le_of_ble_eq_true rfl) ⟨Nat.le_of_ble_eq_true rfl, Nat.le_of_ble_eq_true rfl⟩ rfl dX11_noUse_7) h (fun r_355 f_356 H locs p_357 h => ?_)
  obtain ⟨e_, rfl⟩ := p_357
  subst e_
  refine lv_if_ne (tgt := 15) hx hb dX11_noUse_10 (by decide) (fun c_358 => ?_) (fun c_358 => ?_)
  · exact absurd c_358 (by decide)
  · refine lv_iconst (v := -1) hx hb dX11_noUse_13 (by decide) ?_
    exact q_iret C h hr (rfl) (Nat.le_of_ble_eq_true rfl) (Nat.le_of_ble_eq_true rfl) dX11_noUse_14
set_option maxRecDepth 100000 in
set_option maxHeartbeats 4000000 in
theorem c_X11_enough (l : Launch) (D : va_G) (G : Nat → Nat) (b0 : Nat) (f : hM) (M : Nat → Nat) (hM : mw G f M) (p0 : Int32) : mI l yX11_enough cX11_enough 2 (.int) { frames := 2, cells := 0, slots := 0, locals := 46 } D G b0 f [.ref (M 0), .int p0] (fun r f1 => (-1 : Int32) = r) := by
  refine met_of (own := RX11) (by decide) rfl (Nat.le_of_ble_eq_true rfl) ?_
  intro p e s m below meth c ls C hr hini hl h
  have hl : lv_has ls 2 [(0, .ref (M 0)), (1, .int p0)] := hl
  obtain ⟨hx, hb, hml, hown, hts, hE0, hlk⟩ := id C
  obtain ⟨km0, km1, km2, km3, km4, km5⟩ := hM
  refine lv_aload_n hx hb dX11_enough_0 rfl (lv_at hl 0 rfl) ?_
  refine lv_iconst (v := 0) hx hb dX11_enough_1 (by decide) ?_
  refine q_put C h km0 flw_X11_75 (Or.inr ⟨_, _, _, rfl, rfl⟩) (v := .int 0) rfl rfl (Nat.le_of_ble_eq_true rfl) dX11_enough_2 (fun H locs h => ?_)
  have h : hw D b0 s.heap (hu f (M 0) (.inr (12, [.int 0, .ref (M 1), .int 0, .int 0, .int 0, .ref (M 2), .ref (M 3), .ref (M 4), .ref (M 5), .ref (M 6), .int 0, .int 0, .ref (M 7), .ref (M 8), .int 0, .ref (M 9), .ref (M 10), .ref (M 11), .long 0, .ref (M 12), .ref (M 13), .ref (M 14), .ref (M 15), .ref (M 16), .ref (M 17), .ref (M 18), .ref (M 19), .int 0, .int 0, .ref (M 20), .ref (M 21), .int 0]))) H locs := h
  rw [hu_id km0] at h
  refine lv_aload_n hx hb dX11_enough_5 rfl (lv_at hl 0 rfl) ?_
  refine lv_iload_n hx hb dX11_enough_6 rfl (lv_at hl 1 rfl) ?_
  refine k_i (r_V C h hl (As := [.int p0]) (rest := []) (c_X11_isSet l D G b0 f M ⟨km0, km1, km2, km3, km4, km5⟩ p0) km0 (Cn := RX11) (T := TX11) (N := 32) rfl rfl mk_X11_isSet w_1624 w_1626 w_51 w_1627 ⟨Nat.le_of_ble_eq_true rfl, Nat.le_of_ble_eq_true rfl⟩ rfl (Nat.le_of_ble_eq_true rfl) ⟨Nat.le_of_ble_eq_true rfl, Nat.le_of_ble_eq_true rfl⟩ rfl dX11_enough_7) h (fun r_359 f_360 H locs p_361 h => ?_)
  obtain ⟨e_, rfl⟩ := p_361
  subst e_
  refine lv_if_eq (tgt := 45) hx hb dX11_enough_10 (by decide) (fun c_362 => ?_) (fun c_362 => ?_)
  · refine lv_iconst (v := -1) hx hb dX11_enough_45 (by decide) ?_
    exact q_iret C h hr (rfl) (Nat.le_of_ble_eq_true rfl) (Nat.le_of_ble_eq_true rfl) dX11_enough_46
  · exact absurd c_362 (by decide)
set_option maxRecDepth 100000 in
set_option maxHeartbeats 4000000 in
theorem c_X11_alike (l : Launch) (D : va_G) (G : Nat → Nat) (b0 : Nat) (f : hM) (M : Nat → Nat) (hM : mw G f M) (p0 : Int32) : mI l yX11_alike cX11_alike 3 (.int) { frames := 2, cells := 0, slots := 0, locals := 46 } D G b0 f [.ref (M 0), .int p0] (fun r f1 => (-1 : Int32) = r) := by
  refine met_of (own := RX11) (by decide) rfl (Nat.le_of_ble_eq_true rfl) ?_
  intro p e s m below meth c ls C hr hini hl h
  have hl : lv_has ls 3 [(0, .ref (M 0)), (1, .int p0)] := hl
  obtain ⟨hx, hb, hml, hown, hts, hE0, hlk⟩ := id C
  obtain ⟨km0, km1, km2, km3, km4, km5⟩ := hM
  refine lv_aload_n hx hb dX11_alike_0 rfl (lv_at hl 0 rfl) ?_
  refine lv_iconst (v := 0) hx hb dX11_alike_1 (by decide) ?_
  refine q_put C h km0 flw_X11_75 (Or.inr ⟨_, _, _, rfl, rfl⟩) (v := .int 0) rfl rfl (Nat.le_of_ble_eq_true rfl) dX11_alike_2 (fun H locs h => ?_)
  have h : hw D b0 s.heap (hu f (M 0) (.inr (12, [.int 0, .ref (M 1), .int 0, .int 0, .int 0, .ref (M 2), .ref (M 3), .ref (M 4), .ref (M 5), .ref (M 6), .int 0, .int 0, .ref (M 7), .ref (M 8), .int 0, .ref (M 9), .ref (M 10), .ref (M 11), .long 0, .ref (M 12), .ref (M 13), .ref (M 14), .ref (M 15), .ref (M 16), .ref (M 17), .ref (M 18), .ref (M 19), .int 0, .int 0, .ref (M 20), .ref (M 21), .int 0]))) H locs := h
  rw [hu_id km0] at h
  refine lv_aload_n hx hb dX11_alike_5 rfl (lv_at hl 0 rfl) ?_
  refine lv_iload_n hx hb dX11_alike_6 rfl (lv_at hl 1 rfl) ?_
  refine k_i (r_V C h hl (As := [.int p0]) (rest := []) (c_X11_isSet l D G b0 f M ⟨km0, km1, km2, km3, km4, km5⟩ p0) km0 (Cn := RX11) (T := TX11) (N := 32) rfl rfl mk_X11_isSet w_1624 w_1626 w_51 w_1627 ⟨Nat.le_of_ble_eq_true rfl, Nat.le_of_ble_eq_true rfl⟩ rfl (Nat.le_of_ble_eq_true rfl) ⟨Nat.le_of_ble_eq_true rfl, Nat.le_of_ble_eq_true rfl⟩ rfl dX11_alike_7) h (fun r_363 f_364 H locs p_365 h => ?_)
  obtain ⟨e_, rfl⟩ := p_365
  subst e_
  refine lv_if_ne (tgt := 15) hx hb dX11_alike_10 (by decide) (fun c_366 => ?_) (fun c_366 => ?_)
  · exact absurd c_366 (by decide)
  · refine lv_iconst (v := -1) hx hb dX11_alike_13 (by decide) ?_
    exact q_iret C h hr (rfl) (Nat.le_of_ble_eq_true rfl) (Nat.le_of_ble_eq_true rfl) dX11_alike_14
set_option maxRecDepth 100000 in
set_option maxHeartbeats 4000000 in
theorem c_X11_recurrence (l : Launch) (D : va_G) (G : Nat → Nat) (b0 : Nat) (f : hM) (M : Nat → Nat) (hM : mw G f M) (p0 : Int32) (p1 : Int32) (p2 : Int32) (p3 : Int32) (p4 : Int32) (p5 : Int32) : mI l yX11_recurrence cX11_recurrence 7 (.int) { frames := 4, cells := 0, slots := 0, locals := 98 } D G b0 f [.ref (M 0), .int p0, .int p1, .int p2, .int p3, .int p4, .int p5] (fun r f1 => (-1000000 : Int32) = r) := by
  refine met_of (own := RX11) (by decide) rfl (Nat.le_of_ble_eq_true rfl) ?_
  intro p e s m below meth c ls C hr hini hl h
  have hl : lv_has ls 7 [(0, .ref (M 0)), (1, .int p0), (2, .int p1), (3, .int p2), (4, .int p3), (5, .int p4), (6, .int p5)] := hl
  obtain ⟨hx, hb, hml, hown, hts, hE0, hlk⟩ := id C
  obtain ⟨km0, km1, km2, km3, km4, km5⟩ := hM
  refine lv_aload_n hx hb dX11_recurrence_0 rfl (lv_at hl 0 rfl) ?_
  refine lv_iconst (v := 0) hx hb dX11_recurrence_1 (by decide) ?_
  refine q_put C h km0 flw_X11_75 (Or.inr ⟨_, _, _, rfl, rfl⟩) (v := .int 0) rfl rfl (Nat.le_of_ble_eq_true rfl) dX11_recurrence_2 (fun H locs h => ?_)
  have h : hw D b0 s.heap (hu f (M 0) (.inr (12, [.int 0, .ref (M 1), .int 0, .int 0, .int 0, .ref (M 2), .ref (M 3), .ref (M 4), .ref (M 5), .ref (M 6), .int 0, .int 0, .ref (M 7), .ref (M 8), .int 0, .ref (M 9), .ref (M 10), .ref (M 11), .long 0, .ref (M 12), .ref (M 13), .ref (M 14), .ref (M 15), .ref (M 16), .ref (M 17), .ref (M 18), .ref (M 19), .int 0, .int 0, .ref (M 20), .ref (M 21), .int 0]))) H locs := h
  rw [hu_id km0] at h
  refine lv_aload_n hx hb dX11_recurrence_5 rfl (lv_at hl 0 rfl) ?_
  refine lv_iload_n hx hb dX11_recurrence_6 rfl (lv_at hl 1 rfl) ?_
  refine lv_iload_n hx hb dX11_recurrence_7 rfl (lv_at hl 2 rfl) ?_
  refine lv_iconst (v := 0) hx hb dX11_recurrence_8 (by decide) ?_
  refine lv_iload_n hx hb dX11_recurrence_9 rfl (lv_at hl 3 rfl) ?_
  refine lv_iload hx hb dX11_recurrence_10 (lv_at hl 4 rfl) ?_
  refine lv_iload hx hb dX11_recurrence_12 (lv_at hl 5 rfl) ?_
  refine lv_iload hx hb dX11_recurrence_14 (lv_at hl 6 rfl) ?_
  refine k_i (r_V C h hl (As := [.int p0, .int p1, .int 0, .int p2, .int p3, .int p4, .int p5]) (rest := []) (c_X11_numberOf l D G b0 f M ⟨km0, km1, km2, km3, km4, km5⟩ p0 p1 0 p2 p3 p4 p5) km0 (Cn := RX11) (T := TX11) (N := 32) rfl rfl mk_X11_numberOf w_1936 w_1938 w_77 w_1939 ⟨Nat.le_of_ble_eq_true rfl, Nat.le_of_ble_eq_true rfl⟩ rfl (Nat.le_of_ble_eq_true rfl) ⟨Nat.le_of_ble_eq_true rfl, Nat.le_of_ble_eq_true rfl⟩ rfl dX11_recurrence_16) h (fun r_367 f_368 H locs p_369 h => ?_)
  subst p_369
  exact q_iret C h hr (rfl) (Nat.le_of_ble_eq_true rfl) (Nat.le_of_ble_eq_true rfl) dX11_recurrence_19
set_option maxRecDepth 100000 in
set_option maxHeartbeats 4000000 in
theorem c_X11_fails_ (l : Launch) (D : va_G) (G : Nat → Nat) (b0 : Nat) (f : hM) (M : Nat → Nat) (hM : mw G f M) (p0 : Int32) (p1 : Int32) (p2 : Int32) (p3 : Int32) : mI l yX11_fails_ cX11_fails_ 5 (.int) { frames := 4, cells := 0, slots := 0, locals := 96 } D G b0 f [.ref (M 0), .int p0, .int p1, .int p2, .int p3] (fun r f1 => (-1000000 : Int32) = r) := by
  refine met_of (own := RX11) (by decide) rfl (Nat.le_of_ble_eq_true rfl) ?_
  intro p e s m below meth c ls C hr hini hl h
  have hl : lv_has ls 5 [(0, .ref (M 0)), (1, .int p0), (2, .int p1), (3, .int p2), (4, .int p3)] := hl
  obtain ⟨hx, hb, hml, hown, hts, hE0, hlk⟩ := id C
  obtain ⟨km0, km1, km2, km3, km4, km5⟩ := hM
  refine lv_aload_n hx hb dX11_fails__0 rfl (lv_at hl 0 rfl) ?_
  refine lv_iconst (v := 0) hx hb dX11_fails__1 (by decide) ?_
  refine q_put C h km0 flw_X11_75 (Or.inr ⟨_, _, _, rfl, rfl⟩) (v := .int 0) rfl rfl (Nat.le_of_ble_eq_true rfl) dX11_fails__2 (fun H locs h => ?_)
  have h : hw D b0 s.heap (hu f (M 0) (.inr (12, [.int 0, .ref (M 1), .int 0, .int 0, .int 0, .ref (M 2), .ref (M 3), .ref (M 4), .ref (M 5), .ref (M 6), .int 0, .int 0, .ref (M 7), .ref (M 8), .int 0, .ref (M 9), .ref (M 10), .ref (M 11), .long 0, .ref (M 12), .ref (M 13), .ref (M 14), .ref (M 15), .ref (M 16), .ref (M 17), .ref (M 18), .ref (M 19), .int 0, .int 0, .ref (M 20), .ref (M 21), .int 0]))) H locs := h
  rw [hu_id km0] at h
  refine lv_aload_n hx hb dX11_fails__5 rfl (lv_at hl 0 rfl) ?_
  refine lv_iload_n hx hb dX11_fails__6 rfl (lv_at hl 1 rfl) ?_
  refine lv_iload_n hx hb dX11_fails__7 rfl (lv_at hl 2 rfl) ?_
  refine lv_iconst (v := 0) hx hb dX11_fails__8 (by decide) ?_
  refine lv_iload_n hx hb dX11_fails__9 rfl (lv_at hl 3 rfl) ?_
  refine lv_iload hx hb dX11_fails__10 (lv_at hl 4 rfl) ?_
  refine k_i (r_V C h hl (As := [.int p0, .int p1, .int 0, .int p2, .int p3]) (rest := []) (c_X11_failOf l D G b0 f M ⟨km0, km1, km2, km3, km4, km5⟩ p0 p1 0 p2 p3) km0 (Cn := RX11) (T := TX11) (N := 32) rfl rfl mk_X11_failOf w_1981 w_1983 w_86 w_1984 ⟨Nat.le_of_ble_eq_true rfl, Nat.le_of_ble_eq_true rfl⟩ rfl (Nat.le_of_ble_eq_true rfl) ⟨Nat.le_of_ble_eq_true rfl, Nat.le_of_ble_eq_true rfl⟩ rfl dX11_fails__12) h (fun r_370 f_371 H locs p_372 h => ?_)
  subst p_372
  exact q_iret C h hr (rfl) (Nat.le_of_ble_eq_true rfl) (Nat.le_of_ble_eq_true rfl) dX11_fails__15
set_option maxRecDepth 100000 in
set_option maxHeartbeats 4000000 in
theorem c_X11_equation (l : Launch) (D : va_G) (G : Nat → Nat) (b0 : Nat) (f : hM) (M : Nat → Nat) (hM : mw G f M) (p0 : Int32) (p1 : Int32) (p2 : Int32) (p3 : Int32) (p4 : Int32) (p5 : Int32) : mI l yX11_equation cX11_equation 7 (.int) { frames := 4, cells := 0, slots := 0, locals := 98 } D G b0 f [.ref (M 0), .int p0, .int p1, .int p2, .int p3, .int p4, .int p5] (fun r f1 => (-1000000 : Int32) = r) := by
  refine met_of (own := RX11) (by decide) rfl (Nat.le_of_ble_eq_true rfl) ?_
  intro p e s m below meth c ls C hr hini hl h
  have hl : lv_has ls 7 [(0, .ref (M 0)), (1, .int p0), (2, .int p1), (3, .int p2), (4, .int p3), (5, .int p4), (6, .int p5)] := hl
  obtain ⟨hx, hb, hml, hown, hts, hE0, hlk⟩ := id C
  obtain ⟨km0, km1, km2, km3, km4, km5⟩ := hM
  refine lv_aload_n hx hb dX11_equation_0 rfl (lv_at hl 0 rfl) ?_
  refine lv_iconst (v := 0) hx hb dX11_equation_1 (by decide) ?_
  refine q_put C h km0 flw_X11_75 (Or.inr ⟨_, _, _, rfl, rfl⟩) (v := .int 0) rfl rfl (Nat.le_of_ble_eq_true rfl) dX11_equation_2 (fun H locs h => ?_)
  have h : hw D b0 s.heap (hu f (M 0) (.inr (12, [.int 0, .ref (M 1), .int 0, .int 0, .int 0, .ref (M 2), .ref (M 3), .ref (M 4), .ref (M 5), .ref (M 6), .int 0, .int 0, .ref (M 7), .ref (M 8), .int 0, .ref (M 9), .ref (M 10), .ref (M 11), .long 0, .ref (M 12), .ref (M 13), .ref (M 14), .ref (M 15), .ref (M 16), .ref (M 17), .ref (M 18), .ref (M 19), .int 0, .int 0, .ref (M 20), .ref (M 21), .int 0]))) H locs := h
  rw [hu_id km0] at h
  refine lv_aload_n hx hb dX11_equation_5 rfl (lv_at hl 0 rfl) ?_
  refine lv_iload_n hx hb dX11_equation_6 rfl (lv_at hl 1 rfl) ?_
  refine lv_iload_n hx hb dX11_equation_7 rfl (lv_at hl 2 rfl) ?_
  refine lv_iconst (v := 1) hx hb dX11_equation_8 (by decide) ?_
  refine lv_iload_n hx hb dX11_equation_9 rfl (lv_at hl 3 rfl) ?_
  refine lv_iload hx hb dX11_equation_10 (lv_at hl 4 rfl) ?_
  refine lv_iload hx hb dX11_equation_12 (lv_at hl 5 rfl) ?_
  refine lv_iload hx hb dX11_equation_14 (lv_at hl 6 rfl) ?_
  refine k_i (r_V C h hl (As := [.int p0, .int p1, .int 1, .int p2, .int p3, .int p4, .int p5]) (rest := []) (c_X11_numberOf l D G b0 f M ⟨km0, km1, km2, km3, km4, km5⟩ p0 p1 1 p2 p3 p4 p5) km0 (Cn := RX11) (T := TX11) (N := 32) rfl rfl mk_X11_numberOf w_1936 w_1938 w_77 w_1939 ⟨Nat.le_of_ble_eq_true rfl, Nat.le_of_ble_eq_true rfl⟩ rfl (Nat.le_of_ble_eq_true rfl) ⟨Nat.le_of_ble_eq_true rfl, Nat.le_of_ble_eq_true rfl⟩ rfl dX11_equation_16) h (fun r_373 f_374 H locs p_375 h => ?_)
  subst p_375
  exact q_iret C h hr (rfl) (Nat.le_of_ble_eq_true rfl) (Nat.le_of_ble_eq_true rfl) dX11_equation_19
set_option maxRecDepth 100000 in
set_option maxHeartbeats 4000000 in
theorem c_X11_breaks (l : Launch) (D : va_G) (G : Nat → Nat) (b0 : Nat) (f : hM) (M : Nat → Nat) (hM : mw G f M) (p0 : Int32) (p1 : Int32) (p2 : Int32) (p3 : Int32) : mI l yX11_breaks cX11_breaks 5 (.int) { frames := 4, cells := 0, slots := 0, locals := 96 } D G b0 f [.ref (M 0), .int p0, .int p1, .int p2, .int p3] (fun r f1 => (-1000000 : Int32) = r) := by
  refine met_of (own := RX11) (by decide) rfl (Nat.le_of_ble_eq_true rfl) ?_
  intro p e s m below meth c ls C hr hini hl h
  have hl : lv_has ls 5 [(0, .ref (M 0)), (1, .int p0), (2, .int p1), (3, .int p2), (4, .int p3)] := hl
  obtain ⟨hx, hb, hml, hown, hts, hE0, hlk⟩ := id C
  obtain ⟨km0, km1, km2, km3, km4, km5⟩ := hM
  refine lv_aload_n hx hb dX11_breaks_0 rfl (lv_at hl 0 rfl) ?_
  refine lv_iconst (v := 0) hx hb dX11_breaks_1 (by decide) ?_
  refine q_put C h km0 flw_X11_75 (Or.inr ⟨_, _, _, rfl, rfl⟩) (v := .int 0) rfl rfl (Nat.le_of_ble_eq_true rfl) dX11_breaks_2 (fun H locs h => ?_)
  have h : hw D b0 s.heap (hu f (M 0) (.inr (12, [.int 0, .ref (M 1), .int 0, .int 0, .int 0, .ref (M 2), .ref (M 3), .ref (M 4), .ref (M 5), .ref (M 6), .int 0, .int 0, .ref (M 7), .ref (M 8), .int 0, .ref (M 9), .ref (M 10), .ref (M 11), .long 0, .ref (M 12), .ref (M 13), .ref (M 14), .ref (M 15), .ref (M 16), .ref (M 17), .ref (M 18), .ref (M 19), .int 0, .int 0, .ref (M 20), .ref (M 21), .int 0]))) H locs := h
  rw [hu_id km0] at h
  refine lv_aload_n hx hb dX11_breaks_5 rfl (lv_at hl 0 rfl) ?_
  refine lv_iload_n hx hb dX11_breaks_6 rfl (lv_at hl 1 rfl) ?_
  refine lv_iload_n hx hb dX11_breaks_7 rfl (lv_at hl 2 rfl) ?_
  refine lv_iconst (v := 1) hx hb dX11_breaks_8 (by decide) ?_
  refine lv_iload_n hx hb dX11_breaks_9 rfl (lv_at hl 3 rfl) ?_
  refine lv_iload hx hb dX11_breaks_10 (lv_at hl 4 rfl) ?_
  refine k_i (r_V C h hl (As := [.int p0, .int p1, .int 1, .int p2, .int p3]) (rest := []) (c_X11_failOf l D G b0 f M ⟨km0, km1, km2, km3, km4, km5⟩ p0 p1 1 p2 p3) km0 (Cn := RX11) (T := TX11) (N := 32) rfl rfl mk_X11_failOf w_1981 w_1983 w_86 w_1984 ⟨Nat.le_of_ble_eq_true rfl, Nat.le_of_ble_eq_true rfl⟩ rfl (Nat.le_of_ble_eq_true rfl) ⟨Nat.le_of_ble_eq_true rfl, Nat.le_of_ble_eq_true rfl⟩ rfl dX11_breaks_12) h (fun r_376 f_377 H locs p_378 h => ?_)
  subst p_378
  exact q_iret C h hr (rfl) (Nat.le_of_ble_eq_true rfl) (Nat.le_of_ble_eq_true rfl) dX11_breaks_15
set_option maxRecDepth 100000 in
set_option maxHeartbeats 4000000 in
theorem c_X11_least (l : Launch) (D : va_G) (G : Nat → Nat) (b0 : Nat) (f : hM) (M : Nat → Nat) (hM : mw G f M) (p0 : Int32) (p1 : Int32) (p2 : Int32) : mI l yX11_least cX11_least 9 (.int) { frames := 2, cells := 0, slots := 0, locals := 46 } D G b0 f [.ref (M 0), .int p0, .int p1, .int p2] (fun r f1 => (-1000000 : Int32) = r) := by
  refine met_of (own := RX11) (by decide) rfl (Nat.le_of_ble_eq_true rfl) ?_
  intro p e s m below meth c ls C hr hini hl h
  have hl : lv_has ls 9 [(0, .ref (M 0)), (1, .int p0), (2, .int p1), (3, .int p2)] := hl
  obtain ⟨hx, hb, hml, hown, hts, hE0, hlk⟩ := id C
  obtain ⟨km0, km1, km2, km3, km4, km5⟩ := hM
  refine lv_aload_n hx hb dX11_least_0 rfl (lv_at hl 0 rfl) ?_
  refine lv_iconst (v := 0) hx hb dX11_least_1 (by decide) ?_
  refine q_put C h km0 flw_X11_75 (Or.inr ⟨_, _, _, rfl, rfl⟩) (v := .int 0) rfl rfl (Nat.le_of_ble_eq_true rfl) dX11_least_2 (fun H locs h => ?_)
  have h : hw D b0 s.heap (hu f (M 0) (.inr (12, [.int 0, .ref (M 1), .int 0, .int 0, .int 0, .ref (M 2), .ref (M 3), .ref (M 4), .ref (M 5), .ref (M 6), .int 0, .int 0, .ref (M 7), .ref (M 8), .int 0, .ref (M 9), .ref (M 10), .ref (M 11), .long 0, .ref (M 12), .ref (M 13), .ref (M 14), .ref (M 15), .ref (M 16), .ref (M 17), .ref (M 18), .ref (M 19), .int 0, .int 0, .ref (M 20), .ref (M 21), .int 0]))) H locs := h
  rw [hu_id km0] at h
  refine lv_aload_n hx hb dX11_least_5 rfl (lv_at hl 0 rfl) ?_
  refine lv_iload_n hx hb dX11_least_6 rfl (lv_at hl 1 rfl) ?_
  refine k_i (r_V C h hl (As := [.int p0]) (rest := []) (c_X11_isSet l D G b0 f M ⟨km0, km1, km2, km3, km4, km5⟩ p0) km0 (Cn := RX11) (T := TX11) (N := 32) rfl rfl mk_X11_isSet w_1624 w_1626 w_51 w_1627 ⟨Nat.le_of_ble_eq_true rfl, Nat.le_of_ble_eq_true rfl⟩ rfl (Nat.le_of_ble_eq_true rfl) ⟨Nat.le_of_ble_eq_true rfl, Nat.le_of_ble_eq_true rfl⟩ rfl dX11_least_7) h (fun r_379 f_380 H locs p_381 h => ?_)
  obtain ⟨e_, rfl⟩ := p_381
  subst e_
  refine lv_if_eq (tgt := 35) hx hb dX11_least_10 (by decide) (fun c_382 => ?_) (fun c_382 => ?_)
  · refine lv_ldcw (v := -1000000) hx hb hown (hts _ w_1791) dX11_least_35 ?_
    exact q_iret C h hr (rfl) (Nat.le_of_ble_eq_true rfl) (Nat.le_of_ble_eq_true rfl) dX11_least_38
  · exact absurd c_382 (by decide)
set_option maxRecDepth 100000 in
set_option maxHeartbeats 4000000 in
theorem c_X11_written (l : Launch) (D : va_G) (G : Nat → Nat) (b0 : Nat) (f : hM) (M : Nat → Nat) (hM : mw G f M) (p0 : Int32) (p1 : Int32) : mI l yX11_written cX11_written 3 (.int) { frames := 2, cells := 0, slots := 0, locals := 46 } D G b0 f [.ref (M 0), .int p0, .int p1] (fun r f1 => (-1 : Int32) = r) := by
  refine met_of (own := RX11) (by decide) rfl (Nat.le_of_ble_eq_true rfl) ?_
  intro p e s m below meth c ls C hr hini hl h
  have hl : lv_has ls 3 [(0, .ref (M 0)), (1, .int p0), (2, .int p1)] := hl
  obtain ⟨hx, hb, hml, hown, hts, hE0, hlk⟩ := id C
  obtain ⟨km0, km1, km2, km3, km4, km5⟩ := hM
  refine lv_aload_n hx hb dX11_written_0 rfl (lv_at hl 0 rfl) ?_
  refine lv_iconst (v := 0) hx hb dX11_written_1 (by decide) ?_
  refine q_put C h km0 flw_X11_75 (Or.inr ⟨_, _, _, rfl, rfl⟩) (v := .int 0) rfl rfl (Nat.le_of_ble_eq_true rfl) dX11_written_2 (fun H locs h => ?_)
  have h : hw D b0 s.heap (hu f (M 0) (.inr (12, [.int 0, .ref (M 1), .int 0, .int 0, .int 0, .ref (M 2), .ref (M 3), .ref (M 4), .ref (M 5), .ref (M 6), .int 0, .int 0, .ref (M 7), .ref (M 8), .int 0, .ref (M 9), .ref (M 10), .ref (M 11), .long 0, .ref (M 12), .ref (M 13), .ref (M 14), .ref (M 15), .ref (M 16), .ref (M 17), .ref (M 18), .ref (M 19), .int 0, .int 0, .ref (M 20), .ref (M 21), .int 0]))) H locs := h
  rw [hu_id km0] at h
  refine lv_aload_n hx hb dX11_written_5 rfl (lv_at hl 0 rfl) ?_
  refine lv_iload_n hx hb dX11_written_6 rfl (lv_at hl 1 rfl) ?_
  refine k_i (r_V C h hl (As := [.int p0]) (rest := []) (c_X11_isSet l D G b0 f M ⟨km0, km1, km2, km3, km4, km5⟩ p0) km0 (Cn := RX11) (T := TX11) (N := 32) rfl rfl mk_X11_isSet w_1624 w_1626 w_51 w_1627 ⟨Nat.le_of_ble_eq_true rfl, Nat.le_of_ble_eq_true rfl⟩ rfl (Nat.le_of_ble_eq_true rfl) ⟨Nat.le_of_ble_eq_true rfl, Nat.le_of_ble_eq_true rfl⟩ rfl dX11_written_7) h (fun r_383 f_384 H locs p_385 h => ?_)
  obtain ⟨e_, rfl⟩ := p_385
  subst e_
  refine lv_if_ne (tgt := 15) hx hb dX11_written_10 (by decide) (fun c_386 => ?_) (fun c_386 => ?_)
  · exact absurd c_386 (by decide)
  · refine lv_iconst (v := -1) hx hb dX11_written_13 (by decide) ?_
    exact q_iret C h hr (rfl) (Nat.le_of_ble_eq_true rfl) (Nat.le_of_ble_eq_true rfl) dX11_written_14
end
section


def Vcount (p : Int32) : Int32 := if p = 0 then 0 else if p = 1 then 0 else if p = 2 then 0 else -1
def Vmost (p : Int32) : Int32 := if p = 3 then 0 else -1
def Vstatus (p : Int32) : Int32 := if wi p 0 3 = 0 then -1 else 0
theorem wl_wi3 (p : Int32) : wl (Int32.toInt64 p) 0 3 = wi p 0 3 := by
  unfold wl wi
  have e0 : (0 : Int64) = Int32.toInt64 0 := by decide
  have e3 : (3 : Int64) = Int32.toInt64 3 := by decide
  have h1 : (lg_cmp (Int32.toInt64 p) 0 < 0) ↔ p < 0 := by rw [lg_cmp_lt, e0, Int64.lt_iff_toInt_lt, Int32.toInt_toInt64, Int32.toInt_toInt64, ← Int32.lt_iff_toInt_lt]
  have h2 : (0 < lg_cmp (Int32.toInt64 p) 3) ↔ 3 < p := by rw [lg_cmp_gt, e3, Int64.lt_iff_toInt_lt, Int32.toInt_toInt64, Int32.toInt_toInt64, ← Int32.lt_iff_toInt_lt]
  simp only [h1, h2]
theorem Vstatus_no {p : Int32} (h : wl (Int32.toInt64 p) 0 3 = 0) : Vstatus p = -1 := by rw [wl_wi3] at h; unfold Vstatus; rw [if_pos h]
theorem Vstatus_yes {p : Int32} (h : ¬ wl (Int32.toInt64 p) 0 3 = 0) : Vstatus p = 0 := by rw [wl_wi3] at h; unfold Vstatus; rw [if_neg h]
theorem vp_wi {p : Int32} (h : ¬ wi p 0 3 = 0) : vp_in p 4 := by
  unfold wi at h
  by_cases h1 : p < 0
  · rw [if_pos h1] at h; exact absurd rfl h
  · rw [if_neg h1] at h
    by_cases h2 : 3 < p
    · rw [if_pos h2] at h; exact absurd rfl h
    · rw [vp_in_iff]
      rw [Int32.lt_iff_toInt_lt] at h1 h2
      have e1 : (0 : Int32).toInt = 0 := rfl
      have e2 : (3 : Int32).toInt = 3 := rfl
      omega
theorem vp_wl {p : Int32} (h : ¬ wl (Int32.toInt64 p) 0 3 = 0) : vp_in p 4 := by rw [wl_wi3] at h; exact vp_wi h
set_option maxRecDepth 100000 in
set_option maxHeartbeats 4000000 in
theorem c_J0_coder_7d493 (l : Launch) (D : va_G) (G : Nat → Nat) (b0 : Nat) (f : hM) (i : Nat) (hi : i < 12) : mI l yJ0_coder_7d493 cJ0_coder_7d493 1 (.byte) { frames := 0, cells := 0, slots := 0, locals := 0 } D G b0 f [.ref (G (20 + i))] (fun r f1 => (0 : Int32) = r ∧ f = f1) := by
  refine met_of (own := RJ0) (by decide) rfl (Nat.le_of_ble_eq_true rfl) ?_
  intro p e s m below meth c ls C hr hini hl h
  have hl : lv_has ls 1 [(0, .ref (G (20 + i)))] := hl
  obtain ⟨hx, hb, hml, hown, hts, hE0, hlk⟩ := id C
  have hvk := hE0.2.2.2.2.2.2.2.2.2.1
  refine va_gets hx hb hE0.2.1 h.2.2.1 hown (hts _ w_480) (fun _ h9 => h9) dJ0_coder_7d493_0 ?_
  refine lv_if_eq (tgt := 13) hx hb dJ0_coder_7d493_3 (by decide) (fun c_387 => ?_) (fun c_387 => ?_)
  · exact absurd c_387 (by decide)
  · refine lv_aload_n hx hb dJ0_coder_7d493_6 rfl (lv_at hl 0 rfl) ?_
    refine vk_getf hx hb (hvk.1 i hi).2.1 h.2.2.1 hown (hts _ w_2092) (fun _ h9 => h9) dJ0_coder_7d493_7 ?_
    refine lv_goto (tgt := 14) hx hb dJ0_coder_7d493_10 (by decide) ?_
    exact q_bret C h hr rfl (⟨rfl, rfl⟩) (Nat.le_of_ble_eq_true rfl) (Nat.le_of_ble_eq_true rfl) dJ0_coder_7d493_14
set_option maxRecDepth 100000 in
set_option maxHeartbeats 4000000 in
theorem c_J0_length_8abf5 (l : Launch) (D : va_G) (G : Nat → Nat) (b0 : Nat) (f : hM) (i : Nat) (hi : i < 12) : mI l yJ0_length_8abf5 cJ0_length_8abf5 1 (.int) { frames := 1, cells := 0, slots := 0, locals := 20 } D G b0 f [.ref (G (20 + i))] (fun r f1 => nI (str_len.getD i 0) = r ∧ f = f1) := by
  refine met_of (own := RJ0) (by decide) rfl (Nat.le_of_ble_eq_true rfl) ?_
  intro p e s m below meth c ls C hr hini hl h
  have hl : lv_has ls 1 [(0, .ref (G (20 + i)))] := hl
  obtain ⟨hx, hb, hml, hown, hts, hE0, hlk⟩ := id C
  have hvk := hE0.2.2.2.2.2.2.2.2.2.1
  refine lv_aload_n hx hb dJ0_length_8abf5_0 rfl (lv_at hl 0 rfl) ?_
  refine vk_getf hx hb (hvk.1 i hi).2.2.1 h.2.2.1 hown (hts _ w_2093) (fun _ h9 => h9) dJ0_length_8abf5_1 ?_
  refine va_tlen hx hb (hvk.1 i hi).2.2.2 h.2.2.1 (v := nI (str_len.getD i 0)) rfl dJ0_length_8abf5_4 ?_
  refine lv_aload_n hx hb dJ0_length_8abf5_5 rfl (lv_at hl 0 rfl) ?_
  have hrv := vk_recv hvk hi h.2.2.1
  refine k_i (r_VK C h hl (As := []) (rest := [.int (nI (str_len.getD i 0))]) (c_J0_coder_7d493 l D G b0 f i hi) hrv mk_J0_coder_7d493 w_1255 w_1256 w_1257 w_1258 ⟨Nat.le_of_ble_eq_true rfl, Nat.le_of_ble_eq_true rfl⟩ rfl (Nat.le_of_ble_eq_true rfl) ⟨Nat.le_of_ble_eq_true rfl, Nat.le_of_ble_eq_true rfl⟩ rfl dJ0_length_8abf5_6) h (fun r_388 f_389 H locs p_390 h => ?_)
  obtain ⟨rfl, rfl⟩ := p_390
  refine lv_ishr hx hb dJ0_length_8abf5_9 ?_
  exact q_iret C h hr (⟨(sb_shr0 _).symm, rfl⟩) (Nat.le_of_ble_eq_true rfl) (Nat.le_of_ble_eq_true rfl) dJ0_length_8abf5_10
set_option maxRecDepth 100000 in
set_option maxHeartbeats 4000000 in
theorem c_X11_here (l : Launch) (D : va_G) (G : Nat → Nat) (b0 : Nat) (f : hM) (M : Nat → Nat) (k1 : f (M 0) = some (.inr (12, [.int 0, .ref (M 1), .int 0, .int 0, .int (-1), .ref (M 2), .ref (M 3), .ref (M 4), .ref (M 5), .ref (M 6), .int 0, .int 0, .ref (M 7), .ref (M 8), .int 0, .ref (M 9), .ref (M 10), .ref (M 11), .long 0, .ref (M 12), .ref (M 13), .ref (M 14), .ref (M 15), .ref (M 16), .ref (M 17), .ref (M 18), .ref (M 19), .int 0, .int 0, .ref (M 20), .ref (M 21), .int 0]))) : mI l yX11_here cX11_here 1 (.int) { frames := 0, cells := 0, slots := 0, locals := 0 } D G b0 f [.ref (M 0)] (fun r f1 => (-1 : Int32) = r ∧ f = f1) := by
  refine met_of (own := RX11) (by decide) rfl (Nat.le_of_ble_eq_true rfl) ?_
  intro p e s m below meth c ls C hr hini hl h
  have hl : lv_has ls 1 [(0, .ref (M 0))] := hl
  obtain ⟨hx, hb, hml, hown, hts, hE0, hlk⟩ := id C
  refine lv_aload_n hx hb dX11_here_0 rfl (lv_at hl 0 rfl) ?_
  refine q_get C h k1 fl_X11_90 (v := .int 0) rfl dX11_here_1 ?_
  refine lv_aload_n hx hb dX11_here_4 rfl (lv_at hl 0 rfl) ?_
  refine q_get C h k1 fl_X11_79 (v := .int 0) rfl dX11_here_5 ?_
  refine lv_icmp_ge (tgt := 27) hx hb dX11_here_8 (by decide) (fun c_391 => ?_) (fun c_391 => ?_)
  · refine lv_iconst (v := -1) hx hb dX11_here_27 (by decide) ?_
    exact q_iret C h hr (⟨rfl, rfl⟩) (Nat.le_of_ble_eq_true rfl) (Nat.le_of_ble_eq_true rfl) dX11_here_28
  · exact absurd c_391 (by decide)
set_option maxRecDepth 100000 in
set_option maxHeartbeats 4000000 in
theorem c_X11_look (l : Launch) (D : va_G) (G : Nat → Nat) (b0 : Nat) (f : hM) (M : Nat → Nat) (k1 : f (M 0) = some (.inr (12, [.int 0, .ref (M 1), .int 0, .int 0, .int (-1), .ref (M 2), .ref (M 3), .ref (M 4), .ref (M 5), .ref (M 6), .int 0, .int 0, .ref (M 7), .ref (M 8), .int 0, .ref (M 9), .ref (M 10), .ref (M 11), .long 0, .ref (M 12), .ref (M 13), .ref (M 14), .ref (M 15), .ref (M 16), .ref (M 17), .ref (M 18), .ref (M 19), .int 0, .int 0, .ref (M 20), .ref (M 21), .int 0]))) : mI l yX11_look cX11_look 1 (.int) { frames := 1, cells := 0, slots := 0, locals := 20 } D G b0 f [.ref (M 0)] (fun r f1 => (-1 : Int32) = r ∧ f = f1) := by
  refine met_of (own := RX11) (by decide) rfl (Nat.le_of_ble_eq_true rfl) ?_
  intro p e s m below meth c ls C hr hini hl h
  have hl : lv_has ls 1 [(0, .ref (M 0))] := hl
  obtain ⟨hx, hb, hml, hown, hts, hE0, hlk⟩ := id C
  refine lv_aload_n hx hb dX11_look_0 rfl (lv_at hl 0 rfl) ?_
  refine k_i (r_V C h hl (As := []) (rest := []) (c_X11_here l D G b0 f M k1) k1 (Cn := RX11) (T := TX11) (N := 32) rfl rfl mk_X11_here w_1565 w_1567 w_41 w_1568 ⟨Nat.le_of_ble_eq_true rfl, Nat.le_of_ble_eq_true rfl⟩ rfl (Nat.le_of_ble_eq_true rfl) ⟨Nat.le_of_ble_eq_true rfl, Nat.le_of_ble_eq_true rfl⟩ rfl dX11_look_1) h (fun r_392 f_393 H locs p_394 h => ?_)
  obtain ⟨rfl, rfl⟩ := p_394
  refine lv_bipush (v := 32) hx hb dX11_look_4 (by decide) ?_
  refine lv_icmp_ne (tgt := 22) hx hb dX11_look_6 (by decide) (fun c_395 => ?_) (fun c_395 => ?_)
  · refine lv_aload_n hx hb dX11_look_22 rfl (lv_at hl 0 rfl) ?_
    refine k_i (r_V C h hl (As := []) (rest := []) (c_X11_here l D G b0 f M k1) k1 (Cn := RX11) (T := TX11) (N := 32) rfl rfl mk_X11_here w_1565 w_1567 w_41 w_1568 ⟨Nat.le_of_ble_eq_true rfl, Nat.le_of_ble_eq_true rfl⟩ rfl (Nat.le_of_ble_eq_true rfl) ⟨Nat.le_of_ble_eq_true rfl, Nat.le_of_ble_eq_true rfl⟩ rfl dX11_look_23) h (fun r_396 f_397 H locs p_398 h => ?_)
    obtain ⟨rfl, rfl⟩ := p_398
    exact q_iret C h hr (⟨rfl, rfl⟩) (Nat.le_of_ble_eq_true rfl) (Nat.le_of_ble_eq_true rfl) dX11_look_26
  · exact absurd c_395 (by decide)
set_option maxRecDepth 100000 in
set_option maxHeartbeats 4000000 in
theorem c_X11_word (l : Launch) (D : va_G) (G : Nat → Nat) (b0 : Nat) (f : hM) (M : Nat → Nat) (k1 : f (M 0) = some (.inr (12, [.int 0, .ref (M 1), .int 0, .int 0, .int (-1), .ref (M 2), .ref (M 3), .ref (M 4), .ref (M 5), .ref (M 6), .int 0, .int 0, .ref (M 7), .ref (M 8), .int 0, .ref (M 9), .ref (M 10), .ref (M 11), .long 0, .ref (M 12), .ref (M 13), .ref (M 14), .ref (M 15), .ref (M 16), .ref (M 17), .ref (M 18), .ref (M 19), .int 0, .int 0, .ref (M 20), .ref (M 21), .int 0]))) (i : Nat) (hi : i < 12) (hn : 0 < str_len.getD i 0 ∧ str_len.getD i 0 < 2 ^ 31) : mI l yX11_word cX11_word 4 (.boolean) { frames := 2, cells := 0, slots := 0, locals := 40 } D G b0 f [.ref (M 0), .ref (G (20 + i))] (fun r f1 => (0 : Int32) = r ∧ f = f1) := by
  refine met_of (own := RX11) (by decide) rfl (Nat.le_of_ble_eq_true rfl) ?_
  intro p e s m below meth c ls C hr hini hl h
  have hl : lv_has ls 4 [(0, .ref (M 0)), (1, .ref (G (20 + i)))] := hl
  obtain ⟨hx, hb, hml, hown, hts, hE0, hlk⟩ := id C
  have hvk := hE0.2.2.2.2.2.2.2.2.2.1
  refine lv_aload_n hx hb dX11_word_0 rfl (lv_at hl 0 rfl) ?_
  refine k_i (r_V C h hl (As := []) (rest := []) (c_X11_look l D G b0 f M k1) k1 (Cn := RX11) (T := TX11) (N := 32) rfl rfl mk_X11_look w_1561 w_1563 w_40 w_1564 ⟨Nat.le_of_ble_eq_true rfl, Nat.le_of_ble_eq_true rfl⟩ rfl (Nat.le_of_ble_eq_true rfl) ⟨Nat.le_of_ble_eq_true rfl, Nat.le_of_ble_eq_true rfl⟩ rfl dX11_word_1) h (fun r_399 f_400 H locs p_401 h => ?_)
  obtain ⟨rfl, rfl⟩ := p_401
  refine lv_istore_n (lv' := [(2, .int (-1)), (0, .ref (M 0)), (1, .ref (G (20 + i)))]) hx hb dX11_word_4 rfl hl (by decide) rfl (fun ls hl => ?_)
  refine lv_iconst (v := 0) hx hb dX11_word_5 (by decide) ?_
  refine lv_istore_n (lv' := [(3, .int 0), (2, .int (-1)), (0, .ref (M 0)), (1, .ref (G (20 + i)))]) hx hb dX11_word_6 rfl hl (by decide) rfl (fun ls hl => ?_)
  refine lv_iload_n hx hb dX11_word_7 rfl (lv_at hl 0 rfl) ?_
  refine lv_aload_n hx hb dX11_word_8 rfl (lv_at hl 3 rfl) ?_
  have hrv := vk_recv hvk hi h.2.2.1
  refine k_i (r_VK C h hl (As := []) (rest := [.int 0]) (c_J0_length_8abf5 l D G b0 f i hi) hrv mk_J0_length_8abf5 w_1578 w_1252 w_1253 w_1254 ⟨Nat.le_of_ble_eq_true rfl, Nat.le_of_ble_eq_true rfl⟩ rfl (Nat.le_of_ble_eq_true rfl) ⟨Nat.le_of_ble_eq_true rfl, Nat.le_of_ble_eq_true rfl⟩ rfl dX11_word_9) h (fun r_402 f_403 H locs p_404 h => ?_)
  obtain ⟨rfl, rfl⟩ := p_404
  refine lv_icmp_ge (tgt := 55) hx hb dX11_word_12 (by decide) (fun c_405 => ?_) (fun c_405 => ?_)
  · exact absurd c_405 (nI_nle hn.1 hn.2)
  · refine lv_aload_n hx hb dX11_word_15 rfl (lv_at hl 2 rfl) ?_
    refine q_get C h k1 fl_X11_90 (v := .int 0) rfl dX11_word_16 ?_
    refine lv_iload_n hx hb dX11_word_19 rfl (lv_at hl 0 rfl) ?_
    refine lv_iadd hx hb dX11_word_20 ?_
    refine lv_topi (fun x_ e_ => ?_)
    obtain rfl : 0 = x_ := by rw [e_]; decide
    refine lv_aload_n hx hb dX11_word_21 rfl (lv_at hl 2 rfl) ?_
    refine q_get C h k1 fl_X11_79 (v := .int 0) rfl dX11_word_22 ?_
    refine lv_icmp_ge (tgt := 47) hx hb dX11_word_25 (by decide) (fun c_406 => ?_) (fun c_406 => ?_)
    · refine lv_iconst (v := 0) hx hb dX11_word_47 (by decide) ?_
      exact q_zret C h hr (Or.inl rfl) (⟨rfl, rfl⟩) (Nat.le_of_ble_eq_true rfl) (Nat.le_of_ble_eq_true rfl) dX11_word_48
    · exact absurd c_406 (by decide)
set_option maxRecDepth 100000 in
set_option maxHeartbeats 4000000 in
theorem c_X11_stepHere (l : Launch) (D : va_G) (G : Nat → Nat) (b0 : Nat) (f : hM) (M : Nat → Nat) (k1 : f (M 0) = some (.inr (12, [.int 0, .ref (M 1), .int 0, .int 0, .int (-1), .ref (M 2), .ref (M 3), .ref (M 4), .ref (M 5), .ref (M 6), .int 0, .int 0, .ref (M 7), .ref (M 8), .int 0, .ref (M 9), .ref (M 10), .ref (M 11), .long 0, .ref (M 12), .ref (M 13), .ref (M 14), .ref (M 15), .ref (M 16), .ref (M 17), .ref (M 18), .ref (M 19), .int 0, .int 0, .ref (M 20), .ref (M 21), .int 0]))) : mI l yX11_stepHere cX11_stepHere 1 (.int) { frames := 3, cells := 0, slots := 0, locals := 63 } D G b0 f [.ref (M 0)] (fun r f1 => (-1 : Int32) = r ∧ f = f1) := by
  refine met_of (own := RX11) (by decide) rfl (Nat.le_of_ble_eq_true rfl) ?_
  intro p e s m below meth c ls C hr hini hl h
  have hl : lv_has ls 1 [(0, .ref (M 0))] := hl
  obtain ⟨hx, hb, hml, hown, hts, hE0, hlk⟩ := id C
  have hstr := hE0.2.2.2.2.2.2.2.2.1
  refine lv_aload_n hx hb dX11_stepHere_0 rfl (lv_at hl 0 rfl) ?_
  refine va_ldcS hx hb hown (hstr ("QuarterWalksModel", 114, "n", 0) (by decide)) dX11_stepHere_1 ?_
  refine k_i (r_V C h hl (As := [.ref (G (20 + 0))]) (rest := []) (c_X11_word l D G b0 f M k1 0 (by decide) (by decide)) k1 (Cn := RX11) (T := TX11) (N := 32) rfl rfl mk_X11_word w_1574 w_1576 w_43 w_1577 ⟨Nat.le_of_ble_eq_true rfl, Nat.le_of_ble_eq_true rfl⟩ rfl (Nat.le_of_ble_eq_true rfl) ⟨Nat.le_of_ble_eq_true rfl, Nat.le_of_ble_eq_true rfl⟩ rfl dX11_stepHere_3) h (fun r_407 f_408 H locs p_409 h => ?_)
  obtain ⟨rfl, rfl⟩ := p_409
  refine lv_if_eq (tgt := 11) hx hb dX11_stepHere_6 (by decide) (fun c_410 => ?_) (fun c_410 => ?_)
  · refine lv_aload_n hx hb dX11_stepHere_11 rfl (lv_at hl 0 rfl) ?_
    refine va_ldcS hx hb hown (hstr ("QuarterWalksModel", 120, "ne", 1) (by decide)) dX11_stepHere_12 ?_
    refine k_i (r_V C h hl (As := [.ref (G (20 + 1))]) (rest := []) (c_X11_word l D G b0 f M k1 1 (by decide) (by decide)) k1 (Cn := RX11) (T := TX11) (N := 32) rfl rfl mk_X11_word w_1574 w_1576 w_43 w_1577 ⟨Nat.le_of_ble_eq_true rfl, Nat.le_of_ble_eq_true rfl⟩ rfl (Nat.le_of_ble_eq_true rfl) ⟨Nat.le_of_ble_eq_true rfl, Nat.le_of_ble_eq_true rfl⟩ rfl dX11_stepHere_14) h (fun r_411 f_412 H locs p_413 h => ?_)
    obtain ⟨rfl, rfl⟩ := p_413
    refine lv_if_eq (tgt := 22) hx hb dX11_stepHere_17 (by decide) (fun c_414 => ?_) (fun c_414 => ?_)
    · refine lv_aload_n hx hb dX11_stepHere_22 rfl (lv_at hl 0 rfl) ?_
      refine va_ldcS hx hb hown (hstr ("QuarterWalksModel", 122, "e", 2) (by decide)) dX11_stepHere_23 ?_
      refine k_i (r_V C h hl (As := [.ref (G (20 + 2))]) (rest := []) (c_X11_word l D G b0 f M k1 2 (by decide) (by decide)) k1 (Cn := RX11) (T := TX11) (N := 32) rfl rfl mk_X11_word w_1574 w_1576 w_43 w_1577 ⟨Nat.le_of_ble_eq_true rfl, Nat.le_of_ble_eq_true rfl⟩ rfl (Nat.le_of_ble_eq_true rfl) ⟨Nat.le_of_ble_eq_true rfl, Nat.le_of_ble_eq_true rfl⟩ rfl dX11_stepHere_25) h (fun r_415 f_416 H locs p_417 h => ?_)
      obtain ⟨rfl, rfl⟩ := p_417
      refine lv_if_eq (tgt := 33) hx hb dX11_stepHere_28 (by decide) (fun c_418 => ?_) (fun c_418 => ?_)
      · refine lv_aload_n hx hb dX11_stepHere_33 rfl (lv_at hl 0 rfl) ?_
        refine va_ldcS hx hb hown (hstr ("QuarterWalksModel", 124, "se", 3) (by decide)) dX11_stepHere_34 ?_
        refine k_i (r_V C h hl (As := [.ref (G (20 + 3))]) (rest := []) (c_X11_word l D G b0 f M k1 3 (by decide) (by decide)) k1 (Cn := RX11) (T := TX11) (N := 32) rfl rfl mk_X11_word w_1574 w_1576 w_43 w_1577 ⟨Nat.le_of_ble_eq_true rfl, Nat.le_of_ble_eq_true rfl⟩ rfl (Nat.le_of_ble_eq_true rfl) ⟨Nat.le_of_ble_eq_true rfl, Nat.le_of_ble_eq_true rfl⟩ rfl dX11_stepHere_36) h (fun r_419 f_420 H locs p_421 h => ?_)
        obtain ⟨rfl, rfl⟩ := p_421
        refine lv_if_eq (tgt := 44) hx hb dX11_stepHere_39 (by decide) (fun c_422 => ?_) (fun c_422 => ?_)
        · refine lv_aload_n hx hb dX11_stepHere_44 rfl (lv_at hl 0 rfl) ?_
          refine va_ldcS hx hb hown (hstr ("QuarterWalksModel", 126, "s", 4) (by decide)) dX11_stepHere_45 ?_
          refine k_i (r_V C h hl (As := [.ref (G (20 + 4))]) (rest := []) (c_X11_word l D G b0 f M k1 4 (by decide) (by decide)) k1 (Cn := RX11) (T := TX11) (N := 32) rfl rfl mk_X11_word w_1574 w_1576 w_43 w_1577 ⟨Nat.le_of_ble_eq_true rfl, Nat.le_of_ble_eq_true rfl⟩ rfl (Nat.le_of_ble_eq_true rfl) ⟨Nat.le_of_ble_eq_true rfl, Nat.le_of_ble_eq_true rfl⟩ rfl dX11_stepHere_47) h (fun r_423 f_424 H locs p_425 h => ?_)
          obtain ⟨rfl, rfl⟩ := p_425
          refine lv_if_eq (tgt := 55) hx hb dX11_stepHere_50 (by decide) (fun c_426 => ?_) (fun c_426 => ?_)
          · refine lv_aload_n hx hb dX11_stepHere_55 rfl (lv_at hl 0 rfl) ?_
            refine va_ldcS hx hb hown (hstr ("QuarterWalksModel", 128, "sw", 5) (by decide)) dX11_stepHere_56 ?_
            refine k_i (r_V C h hl (As := [.ref (G (20 + 5))]) (rest := []) (c_X11_word l D G b0 f M k1 5 (by decide) (by decide)) k1 (Cn := RX11) (T := TX11) (N := 32) rfl rfl mk_X11_word w_1574 w_1576 w_43 w_1577 ⟨Nat.le_of_ble_eq_true rfl, Nat.le_of_ble_eq_true rfl⟩ rfl (Nat.le_of_ble_eq_true rfl) ⟨Nat.le_of_ble_eq_true rfl, Nat.le_of_ble_eq_true rfl⟩ rfl dX11_stepHere_58) h (fun r_427 f_428 H locs p_429 h => ?_)
            obtain ⟨rfl, rfl⟩ := p_429
            refine lv_if_eq (tgt := 66) hx hb dX11_stepHere_61 (by decide) (fun c_430 => ?_) (fun c_430 => ?_)
            · refine lv_aload_n hx hb dX11_stepHere_66 rfl (lv_at hl 0 rfl) ?_
              refine va_ldcS hx hb hown (hstr ("QuarterWalksModel", 130, "w", 6) (by decide)) dX11_stepHere_67 ?_
              refine k_i (r_V C h hl (As := [.ref (G (20 + 6))]) (rest := []) (c_X11_word l D G b0 f M k1 6 (by decide) (by decide)) k1 (Cn := RX11) (T := TX11) (N := 32) rfl rfl mk_X11_word w_1574 w_1576 w_43 w_1577 ⟨Nat.le_of_ble_eq_true rfl, Nat.le_of_ble_eq_true rfl⟩ rfl (Nat.le_of_ble_eq_true rfl) ⟨Nat.le_of_ble_eq_true rfl, Nat.le_of_ble_eq_true rfl⟩ rfl dX11_stepHere_69) h (fun r_431 f_432 H locs p_433 h => ?_)
              obtain ⟨rfl, rfl⟩ := p_433
              refine lv_if_eq (tgt := 78) hx hb dX11_stepHere_72 (by decide) (fun c_434 => ?_) (fun c_434 => ?_)
              · refine lv_aload_n hx hb dX11_stepHere_78 rfl (lv_at hl 0 rfl) ?_
                refine va_ldcS hx hb hown (hstr ("QuarterWalksModel", 132, "nw", 7) (by decide)) dX11_stepHere_79 ?_
                refine k_i (r_V C h hl (As := [.ref (G (20 + 7))]) (rest := []) (c_X11_word l D G b0 f M k1 7 (by decide) (by decide)) k1 (Cn := RX11) (T := TX11) (N := 32) rfl rfl mk_X11_word w_1574 w_1576 w_43 w_1577 ⟨Nat.le_of_ble_eq_true rfl, Nat.le_of_ble_eq_true rfl⟩ rfl (Nat.le_of_ble_eq_true rfl) ⟨Nat.le_of_ble_eq_true rfl, Nat.le_of_ble_eq_true rfl⟩ rfl dX11_stepHere_81) h (fun r_435 f_436 H locs p_437 h => ?_)
                obtain ⟨rfl, rfl⟩ := p_437
                refine lv_if_eq (tgt := 92) hx hb dX11_stepHere_84 (by decide) (fun c_438 => ?_) (fun c_438 => ?_)
                · refine lv_iconst (v := -1) hx hb dX11_stepHere_92 (by decide) ?_
                  exact q_iret C h hr (⟨rfl, rfl⟩) (Nat.le_of_ble_eq_true rfl) (Nat.le_of_ble_eq_true rfl) dX11_stepHere_93
                · exact absurd c_438 (by decide)
              · exact absurd c_434 (by decide)
            · exact absurd c_430 (by decide)
          · exact absurd c_426 (by decide)
        · exact absurd c_422 (by decide)
      · exact absurd c_418 (by decide)
    · exact absurd c_414 (by decide)
  · exact absurd c_410 (by decide)
set_option maxRecDepth 100000 in
set_option maxHeartbeats 4000000 in
theorem c_X11_fails (l : Launch) (D : va_G) (G : Nat → Nat) (b0 : Nat) (f : hM) (M : Nat → Nat) (k1 : f (M 0) = some (.inr (12, [.int 0, .ref (M 1), .int 0, .int 0, .int (-1), .ref (M 2), .ref (M 3), .ref (M 4), .ref (M 5), .ref (M 6), .int 0, .int 0, .ref (M 7), .ref (M 8), .int 0, .ref (M 9), .ref (M 10), .ref (M 11), .long 0, .ref (M 12), .ref (M 13), .ref (M 14), .ref (M 15), .ref (M 16), .ref (M 17), .ref (M 18), .ref (M 19), .int 0, .int 0, .ref (M 20), .ref (M 21), .int 0]))) : mV l yX11_fails cX11_fails 2 { frames := 0, cells := 0, slots := 0, locals := 0 } D G b0 f [.ref (M 0), .int 0] (fun f1 => hu f (M 0) (.inr (12, [.int 0, .ref (M 1), .int 0, .int 0, .int 0, .ref (M 2), .ref (M 3), .ref (M 4), .ref (M 5), .ref (M 6), .int 0, .int 0, .ref (M 7), .ref (M 8), .int 0, .ref (M 9), .ref (M 10), .ref (M 11), .long 0, .ref (M 12), .ref (M 13), .ref (M 14), .ref (M 15), .ref (M 16), .ref (M 17), .ref (M 18), .ref (M 19), .int 0, .int 0, .ref (M 20), .ref (M 21), .int 0])) = f1) := by
  refine met_of (own := RX11) (by decide) rfl (Nat.le_of_ble_eq_true rfl) ?_
  intro p e s m below meth c ls C hr hini hl h
  have hl : lv_has ls 2 [(0, .ref (M 0)), (1, .int 0)] := hl
  obtain ⟨hx, hb, hml, hown, hts, hE0, hlk⟩ := id C
  refine lv_aload_n hx hb dX11_fails_0 rfl (lv_at hl 0 rfl) ?_
  refine q_get C h k1 fl_X11_97 (v := .int (-1)) rfl dX11_fails_1 ?_
  refine lv_iconst (v := -1) hx hb dX11_fails_4 (by decide) ?_
  refine lv_icmp_ne (tgt := 13) hx hb dX11_fails_5 (by decide) (fun c_439 => ?_) (fun c_439 => ?_)
  · exact absurd c_439 (by decide)
  · refine lv_aload_n hx hb dX11_fails_8 rfl (lv_at hl 0 rfl) ?_
    refine lv_iload_n hx hb dX11_fails_9 rfl (lv_at hl 1 rfl) ?_
    refine q_put C h k1 flw_X11_97 (Or.inr ⟨_, _, _, rfl, rfl⟩) (v := .int 0) rfl rfl (Nat.le_of_ble_eq_true rfl) dX11_fails_10 (fun H locs h => ?_)
    have h : hw D b0 s.heap (hu f (M 0) (.inr (12, [.int 0, .ref (M 1), .int 0, .int 0, .int 0, .ref (M 2), .ref (M 3), .ref (M 4), .ref (M 5), .ref (M 6), .int 0, .int 0, .ref (M 7), .ref (M 8), .int 0, .ref (M 9), .ref (M 10), .ref (M 11), .long 0, .ref (M 12), .ref (M 13), .ref (M 14), .ref (M 15), .ref (M 16), .ref (M 17), .ref (M 18), .ref (M 19), .int 0, .int 0, .ref (M 20), .ref (M 21), .int 0]))) H locs := h
    generalize ef_440 : hu f (M 0) (.inr (12, [.int 0, .ref (M 1), .int 0, .int 0, .int 0, .ref (M 2), .ref (M 3), .ref (M 4), .ref (M 5), .ref (M 6), .int 0, .int 0, .ref (M 7), .ref (M 8), .int 0, .ref (M 9), .ref (M 10), .ref (M 11), .long 0, .ref (M 12), .ref (M 13), .ref (M 14), .ref (M 15), .ref (M 16), .ref (M 17), .ref (M 18), .ref (M 19), .int 0, .int 0, .ref (M 20), .ref (M 21), .int 0])) = f_440 at h
    have k_441 : f_440 (M 0) = some (.inr (12, [.int 0, .ref (M 1), .int 0, .int 0, .int 0, .ref (M 2), .ref (M 3), .ref (M 4), .ref (M 5), .ref (M 6), .int 0, .int 0, .ref (M 7), .ref (M 8), .int 0, .ref (M 9), .ref (M 10), .ref (M 11), .long 0, .ref (M 12), .ref (M 13), .ref (M 14), .ref (M 15), .ref (M 16), .ref (M 17), .ref (M 18), .ref (M 19), .int 0, .int 0, .ref (M 20), .ref (M 21), .int 0])) := by rw [← ef_440]; exact hu_self _ _ _
    exact q_vret C h hr (by first | exact ef_440 | rfl) (Nat.le_of_ble_eq_true rfl) (Nat.le_of_ble_eq_true rfl) dX11_fails_13
set_option maxRecDepth 100000 in
set_option maxHeartbeats 4000000 in
theorem c_X11_readsStep (l : Launch) (D : va_G) (G : Nat → Nat) (b0 : Nat) (f : hM) (M : Nat → Nat) (k1 : f (M 0) = some (.inr (12, [.int 0, .ref (M 1), .int 0, .int 0, .int (-1), .ref (M 2), .ref (M 3), .ref (M 4), .ref (M 5), .ref (M 6), .int 0, .int 0, .ref (M 7), .ref (M 8), .int 0, .ref (M 9), .ref (M 10), .ref (M 11), .long 0, .ref (M 12), .ref (M 13), .ref (M 14), .ref (M 15), .ref (M 16), .ref (M 17), .ref (M 18), .ref (M 19), .int 0, .int 0, .ref (M 20), .ref (M 21), .int 0]))) : mV l yX11_readsStep cX11_readsStep 4 { frames := 4, cells := 0, slots := 0, locals := 83 } D G b0 f [.ref (M 0)] (fun f1 => hu f (M 0) (.inr (12, [.int 0, .ref (M 1), .int 0, .int 0, .int 0, .ref (M 2), .ref (M 3), .ref (M 4), .ref (M 5), .ref (M 6), .int 0, .int 0, .ref (M 7), .ref (M 8), .int 0, .ref (M 9), .ref (M 10), .ref (M 11), .long 0, .ref (M 12), .ref (M 13), .ref (M 14), .ref (M 15), .ref (M 16), .ref (M 17), .ref (M 18), .ref (M 19), .int 0, .int 0, .ref (M 20), .ref (M 21), .int 0])) = f1) := by
  refine met_of (own := RX11) (by decide) rfl (Nat.le_of_ble_eq_true rfl) ?_
  intro p e s m below meth c ls C hr hini hl h
  have hl : lv_has ls 4 [(0, .ref (M 0))] := hl
  obtain ⟨hx, hb, hml, hown, hts, hE0, hlk⟩ := id C
  refine lv_aload_n hx hb dX11_readsStep_0 rfl (lv_at hl 0 rfl) ?_
  refine k_i (r_V C h hl (As := []) (rest := []) (c_X11_look l D G b0 f M k1) k1 (Cn := RX11) (T := TX11) (N := 32) rfl rfl mk_X11_look w_1561 w_1563 w_40 w_1564 ⟨Nat.le_of_ble_eq_true rfl, Nat.le_of_ble_eq_true rfl⟩ rfl (Nat.le_of_ble_eq_true rfl) ⟨Nat.le_of_ble_eq_true rfl, Nat.le_of_ble_eq_true rfl⟩ rfl dX11_readsStep_1) h (fun r_442 f_443 H locs p_444 h => ?_)
  obtain ⟨rfl, rfl⟩ := p_444
  refine lv_istore_n (lv' := [(1, .int (-1)), (0, .ref (M 0))]) hx hb dX11_readsStep_4 rfl hl (by decide) rfl (fun ls hl => ?_)
  refine lv_aload_n hx hb dX11_readsStep_5 rfl (lv_at hl 1 rfl) ?_
  refine q_get C h k1 fl_X11_90 (v := .int 0) rfl dX11_readsStep_6 ?_
  refine lv_istore_n (lv' := [(2, .int 0), (1, .int (-1)), (0, .ref (M 0))]) hx hb dX11_readsStep_9 rfl hl (by decide) rfl (fun ls hl => ?_)
  refine lv_aload_n hx hb dX11_readsStep_10 rfl (lv_at hl 2 rfl) ?_
  refine k_i (r_V C h hl (As := []) (rest := []) (c_X11_stepHere l D G b0 f M k1) k1 (Cn := RX11) (T := TX11) (N := 32) rfl rfl mk_X11_stepHere w_1569 w_1571 w_42 w_1572 ⟨Nat.le_of_ble_eq_true rfl, Nat.le_of_ble_eq_true rfl⟩ rfl (Nat.le_of_ble_eq_true rfl) ⟨Nat.le_of_ble_eq_true rfl, Nat.le_of_ble_eq_true rfl⟩ rfl dX11_readsStep_11) h (fun r_445 f_446 H locs p_447 h => ?_)
  obtain ⟨rfl, rfl⟩ := p_447
  refine lv_istore_n (lv' := [(3, .int (-1)), (2, .int 0), (1, .int (-1)), (0, .ref (M 0))]) hx hb dX11_readsStep_14 rfl hl (by decide) rfl (fun ls hl => ?_)
  refine lv_iload_n hx hb dX11_readsStep_15 rfl (lv_at hl 0 rfl) ?_
  refine lv_iconst (v := -1) hx hb dX11_readsStep_16 (by decide) ?_
  refine lv_icmp_eq (tgt := 29) hx hb dX11_readsStep_17 (by decide) (fun c_448 => ?_) (fun c_448 => ?_)
  · refine lv_aload_n hx hb dX11_readsStep_29 rfl (lv_at hl 3 rfl) ?_
    refine lv_iload_n hx hb dX11_readsStep_30 rfl (lv_at hl 1 rfl) ?_
    refine k_v (r_V C h hl (As := [.int 0]) (rest := []) (c_X11_fails l D G b0 f M k1) k1 (Cn := RX11) (T := TX11) (N := 32) rfl rfl mk_X11_fails w_1587 w_1589 w_44 w_1590 ⟨Nat.le_of_ble_eq_true rfl, Nat.le_of_ble_eq_true rfl⟩ rfl (Nat.le_of_ble_eq_true rfl) ⟨Nat.le_of_ble_eq_true rfl, Nat.le_of_ble_eq_true rfl⟩ rfl dX11_readsStep_31) h (fun f_450 H locs p_451 h => ?_)
    have k_452 : f_450 (M 0) = some (.inr (12, [.int 0, .ref (M 1), .int 0, .int 0, .int 0, .ref (M 2), .ref (M 3), .ref (M 4), .ref (M 5), .ref (M 6), .int 0, .int 0, .ref (M 7), .ref (M 8), .int 0, .ref (M 9), .ref (M 10), .ref (M 11), .long 0, .ref (M 12), .ref (M 13), .ref (M 14), .ref (M 15), .ref (M 16), .ref (M 17), .ref (M 18), .ref (M 19), .int 0, .int 0, .ref (M 20), .ref (M 21), .int 0])) := by rw [← p_451]; exact hu_self _ _ _
    exact q_vret C h hr (by first | exact p_451 | rfl) (Nat.le_of_ble_eq_true rfl) (Nat.le_of_ble_eq_true rfl) dX11_readsStep_34
  · exact absurd c_448 (by decide)
set_option maxRecDepth 100000 in
set_option maxHeartbeats 4000000 in
theorem c_X11_reads (l : Launch) (D : va_G) (G : Nat → Nat) (b0 : Nat) (f : hM) (M : Nat → Nat) (hM : mw G f M) : mI l yX11_reads cX11_reads 2 (.int) { frames := 5, cells := 0, slots := 0, locals := 106 } D G b0 f [.ref (M 0)] (fun r f1 => (0 : Int32) = r ∧ f = f1) := by
  refine met_of (own := RX11) (by decide) rfl (Nat.le_of_ble_eq_true rfl) ?_
  intro p e s m below meth c ls C hr hini hl h
  have hl : lv_has ls 2 [(0, .ref (M 0))] := hl
  obtain ⟨hx, hb, hml, hown, hts, hE0, hlk⟩ := id C
  obtain ⟨km0, km1, km2, km3, km4, km5⟩ := hM
  refine lv_aload_n hx hb dX11_reads_0 rfl (lv_at hl 0 rfl) ?_
  refine lv_iconst (v := 0) hx hb dX11_reads_1 (by decide) ?_
  refine q_put C h km0 flw_X11_90 (Or.inr ⟨_, _, _, rfl, rfl⟩) (v := .int 0) rfl rfl (Nat.le_of_ble_eq_true rfl) dX11_reads_2 (fun H locs h => ?_)
  have h : hw D b0 s.heap (hu f (M 0) (.inr (12, [.int 0, .ref (M 1), .int 0, .int 0, .int 0, .ref (M 2), .ref (M 3), .ref (M 4), .ref (M 5), .ref (M 6), .int 0, .int 0, .ref (M 7), .ref (M 8), .int 0, .ref (M 9), .ref (M 10), .ref (M 11), .long 0, .ref (M 12), .ref (M 13), .ref (M 14), .ref (M 15), .ref (M 16), .ref (M 17), .ref (M 18), .ref (M 19), .int 0, .int 0, .ref (M 20), .ref (M 21), .int 0]))) H locs := h
  rw [hu_id km0] at h
  refine lv_aload_n hx hb dX11_reads_5 rfl (lv_at hl 0 rfl) ?_
  refine lv_iconst (v := -1) hx hb dX11_reads_6 (by decide) ?_
  refine q_put C h km0 flw_X11_97 (Or.inr ⟨_, _, _, rfl, rfl⟩) (v := .int (-1)) rfl rfl (Nat.le_of_ble_eq_true rfl) dX11_reads_7 (fun H locs h => ?_)
  have h : hw D b0 s.heap (hu f (M 0) (.inr (12, [.int 0, .ref (M 1), .int 0, .int 0, .int (-1), .ref (M 2), .ref (M 3), .ref (M 4), .ref (M 5), .ref (M 6), .int 0, .int 0, .ref (M 7), .ref (M 8), .int 0, .ref (M 9), .ref (M 10), .ref (M 11), .long 0, .ref (M 12), .ref (M 13), .ref (M 14), .ref (M 15), .ref (M 16), .ref (M 17), .ref (M 18), .ref (M 19), .int 0, .int 0, .ref (M 20), .ref (M 21), .int 0]))) H locs := h
  generalize ef_453 : hu f (M 0) (.inr (12, [.int 0, .ref (M 1), .int 0, .int 0, .int (-1), .ref (M 2), .ref (M 3), .ref (M 4), .ref (M 5), .ref (M 6), .int 0, .int 0, .ref (M 7), .ref (M 8), .int 0, .ref (M 9), .ref (M 10), .ref (M 11), .long 0, .ref (M 12), .ref (M 13), .ref (M 14), .ref (M 15), .ref (M 16), .ref (M 17), .ref (M 18), .ref (M 19), .int 0, .int 0, .ref (M 20), .ref (M 21), .int 0])) = f_453 at h
  have k_454 : f_453 (M 1) = some (.inl (G 0, 200, .inl (fun _ => 0))) := by rw [← ef_453]; exact hu_at km1 (hne (4, 12) (1, 200) km0 km1 rfl rfl (by decide))
  have k_455 : f_453 (M 2) = some (.inl (G 1, 10, .inl (fun _ => 0))) := by rw [← ef_453]; exact hu_at km2 (hne (4, 12) (1, 10) km0 km2 rfl rfl (by decide))
  have k_456 : f_453 (M 3) = some (.inl (G 1, 81, .inl (fun _ => 0))) := by rw [← ef_453]; exact hu_at km3 (hne (4, 12) (1, 81) km0 km3 rfl rfl (by decide))
  have k_457 : f_453 (M 4) = some (.inl (G 1, 81, .inl (fun _ => 0))) := by rw [← ef_453]; exact hu_at km4 (hne (4, 12) (1, 81) km0 km4 rfl rfl (by decide))
  have k_458 : f_453 (M 6) = some (.inl (G 1, 4, .inl (fun _ => 0))) := by rw [← ef_453]; exact hu_at km5 (hne (4, 12) (1, 4) km0 km5 rfl rfl (by decide))
  have k_459 : f_453 (M 0) = some (.inr (12, [.int 0, .ref (M 1), .int 0, .int 0, .int (-1), .ref (M 2), .ref (M 3), .ref (M 4), .ref (M 5), .ref (M 6), .int 0, .int 0, .ref (M 7), .ref (M 8), .int 0, .ref (M 9), .ref (M 10), .ref (M 11), .long 0, .ref (M 12), .ref (M 13), .ref (M 14), .ref (M 15), .ref (M 16), .ref (M 17), .ref (M 18), .ref (M 19), .int 0, .int 0, .ref (M 20), .ref (M 21), .int 0])) := by rw [← ef_453]; exact hu_self _ _ _
  refine lv_iconst (v := 0) hx hb dX11_reads_10 (by decide) ?_
  refine lv_istore_n (lv' := [(1, .int 0), (0, .ref (M 0))]) hx hb dX11_reads_11 rfl hl (by decide) rfl (fun ls hl => ?_)
  refine lv_iload_n hx hb dX11_reads_12 rfl (lv_at hl 0 rfl) ?_
  refine lv_bipush (v := 10) hx hb dX11_reads_13 (by decide) ?_
  refine lv_icmp_ge (tgt := 31) hx hb dX11_reads_15 (by decide) (fun c_460 => ?_) (fun c_460 => ?_)
  · exact absurd c_460 (by decide)
  · refine lv_aload_n hx hb dX11_reads_18 rfl (lv_at hl 1 rfl) ?_
    refine q_get C h k_459 fl_X11_13 (v := .ref (M 2)) rfl dX11_reads_19 ?_
    refine lv_iload_n hx hb dX11_reads_22 rfl (lv_at hl 0 rfl) ?_
    refine lv_iconst (v := 0) hx hb dX11_reads_23 (by decide) ?_
    refine q_iast C h k_455 (by unfold vp_in; decide) dX11_reads_24 (fun H locs h => ?_)
    rw [upd0] at h
    rw [hu_id k_455] at h
    refine lv_iinc (v := 1) (lv' := [(1, .int 1), (0, .ref (M 0))]) hx hb dX11_reads_25 hl (k := 0) rfl (by decide) (by decide) rfl (fun ls hl => ?_)
    refine lv_goto (tgt := 12) hx hb dX11_reads_28 (by decide) ?_
    refine lv_iload_n hx hb dX11_reads_12 rfl (lv_at hl 0 rfl) ?_
    refine lv_bipush (v := 10) hx hb dX11_reads_13 (by decide) ?_
    refine lv_icmp_ge (tgt := 31) hx hb dX11_reads_15 (by decide) (fun c_462 => ?_) (fun c_462 => ?_)
    · exact absurd c_462 (by decide)
    · refine lv_aload_n hx hb dX11_reads_18 rfl (lv_at hl 1 rfl) ?_
      refine q_get C h k_459 fl_X11_13 (v := .ref (M 2)) rfl dX11_reads_19 ?_
      refine lv_iload_n hx hb dX11_reads_22 rfl (lv_at hl 0 rfl) ?_
      refine lv_iconst (v := 0) hx hb dX11_reads_23 (by decide) ?_
      refine q_iast C h k_455 (by unfold vp_in; decide) dX11_reads_24 (fun H locs h => ?_)
      rw [upd0] at h
      rw [hu_id k_455] at h
      refine lv_iinc (v := 2) (lv' := [(1, .int 2), (0, .ref (M 0))]) hx hb dX11_reads_25 hl (k := 0) rfl (by decide) (by decide) rfl (fun ls hl => ?_)
      refine lv_goto (tgt := 12) hx hb dX11_reads_28 (by decide) ?_
      refine lv_iload_n hx hb dX11_reads_12 rfl (lv_at hl 0 rfl) ?_
      refine lv_bipush (v := 10) hx hb dX11_reads_13 (by decide) ?_
      refine lv_icmp_ge (tgt := 31) hx hb dX11_reads_15 (by decide) (fun c_464 => ?_) (fun c_464 => ?_)
      · exact absurd c_464 (by decide)
      · refine lv_aload_n hx hb dX11_reads_18 rfl (lv_at hl 1 rfl) ?_
        refine q_get C h k_459 fl_X11_13 (v := .ref (M 2)) rfl dX11_reads_19 ?_
        refine lv_iload_n hx hb dX11_reads_22 rfl (lv_at hl 0 rfl) ?_
        refine lv_iconst (v := 0) hx hb dX11_reads_23 (by decide) ?_
        refine q_iast C h k_455 (by unfold vp_in; decide) dX11_reads_24 (fun H locs h => ?_)
        rw [upd0] at h
        rw [hu_id k_455] at h
        refine lv_iinc (v := 3) (lv' := [(1, .int 3), (0, .ref (M 0))]) hx hb dX11_reads_25 hl (k := 0) rfl (by decide) (by decide) rfl (fun ls hl => ?_)
        refine lv_goto (tgt := 12) hx hb dX11_reads_28 (by decide) ?_
        refine lv_iload_n hx hb dX11_reads_12 rfl (lv_at hl 0 rfl) ?_
        refine lv_bipush (v := 10) hx hb dX11_reads_13 (by decide) ?_
        refine lv_icmp_ge (tgt := 31) hx hb dX11_reads_15 (by decide) (fun c_466 => ?_) (fun c_466 => ?_)
        · exact absurd c_466 (by decide)
        · refine lv_aload_n hx hb dX11_reads_18 rfl (lv_at hl 1 rfl) ?_
          refine q_get C h k_459 fl_X11_13 (v := .ref (M 2)) rfl dX11_reads_19 ?_
          refine lv_iload_n hx hb dX11_reads_22 rfl (lv_at hl 0 rfl) ?_
          refine lv_iconst (v := 0) hx hb dX11_reads_23 (by decide) ?_
          refine q_iast C h k_455 (by unfold vp_in; decide) dX11_reads_24 (fun H locs h => ?_)
          rw [upd0] at h
          rw [hu_id k_455] at h
          refine lv_iinc (v := 4) (lv' := [(1, .int 4), (0, .ref (M 0))]) hx hb dX11_reads_25 hl (k := 0) rfl (by decide) (by decide) rfl (fun ls hl => ?_)
          refine lv_goto (tgt := 12) hx hb dX11_reads_28 (by decide) ?_
          refine lv_iload_n hx hb dX11_reads_12 rfl (lv_at hl 0 rfl) ?_
          refine lv_bipush (v := 10) hx hb dX11_reads_13 (by decide) ?_
          refine lv_icmp_ge (tgt := 31) hx hb dX11_reads_15 (by decide) (fun c_468 => ?_) (fun c_468 => ?_)
          · exact absurd c_468 (by decide)
          · refine lv_aload_n hx hb dX11_reads_18 rfl (lv_at hl 1 rfl) ?_
            refine q_get C h k_459 fl_X11_13 (v := .ref (M 2)) rfl dX11_reads_19 ?_
            refine lv_iload_n hx hb dX11_reads_22 rfl (lv_at hl 0 rfl) ?_
            refine lv_iconst (v := 0) hx hb dX11_reads_23 (by decide) ?_
            refine q_iast C h k_455 (by unfold vp_in; decide) dX11_reads_24 (fun H locs h => ?_)
            rw [upd0] at h
            rw [hu_id k_455] at h
            refine lv_iinc (v := 5) (lv' := [(1, .int 5), (0, .ref (M 0))]) hx hb dX11_reads_25 hl (k := 0) rfl (by decide) (by decide) rfl (fun ls hl => ?_)
            refine lv_goto (tgt := 12) hx hb dX11_reads_28 (by decide) ?_
            refine lv_iload_n hx hb dX11_reads_12 rfl (lv_at hl 0 rfl) ?_
            refine lv_bipush (v := 10) hx hb dX11_reads_13 (by decide) ?_
            refine lv_icmp_ge (tgt := 31) hx hb dX11_reads_15 (by decide) (fun c_470 => ?_) (fun c_470 => ?_)
            · exact absurd c_470 (by decide)
            · refine lv_aload_n hx hb dX11_reads_18 rfl (lv_at hl 1 rfl) ?_
              refine q_get C h k_459 fl_X11_13 (v := .ref (M 2)) rfl dX11_reads_19 ?_
              refine lv_iload_n hx hb dX11_reads_22 rfl (lv_at hl 0 rfl) ?_
              refine lv_iconst (v := 0) hx hb dX11_reads_23 (by decide) ?_
              refine q_iast C h k_455 (by unfold vp_in; decide) dX11_reads_24 (fun H locs h => ?_)
              rw [upd0] at h
              rw [hu_id k_455] at h
              refine lv_iinc (v := 6) (lv' := [(1, .int 6), (0, .ref (M 0))]) hx hb dX11_reads_25 hl (k := 0) rfl (by decide) (by decide) rfl (fun ls hl => ?_)
              refine lv_goto (tgt := 12) hx hb dX11_reads_28 (by decide) ?_
              refine lv_iload_n hx hb dX11_reads_12 rfl (lv_at hl 0 rfl) ?_
              refine lv_bipush (v := 10) hx hb dX11_reads_13 (by decide) ?_
              refine lv_icmp_ge (tgt := 31) hx hb dX11_reads_15 (by decide) (fun c_472 => ?_) (fun c_472 => ?_)
              · exact absurd c_472 (by decide)
              · refine lv_aload_n hx hb dX11_reads_18 rfl (lv_at hl 1 rfl) ?_
                refine q_get C h k_459 fl_X11_13 (v := .ref (M 2)) rfl dX11_reads_19 ?_
                refine lv_iload_n hx hb dX11_reads_22 rfl (lv_at hl 0 rfl) ?_
                refine lv_iconst (v := 0) hx hb dX11_reads_23 (by decide) ?_
                refine q_iast C h k_455 (by unfold vp_in; decide) dX11_reads_24 (fun H locs h => ?_)
                rw [upd0] at h
                rw [hu_id k_455] at h
                refine lv_iinc (v := 7) (lv' := [(1, .int 7), (0, .ref (M 0))]) hx hb dX11_reads_25 hl (k := 0) rfl (by decide) (by decide) rfl (fun ls hl => ?_)
                refine lv_goto (tgt := 12) hx hb dX11_reads_28 (by decide) ?_
                refine lv_iload_n hx hb dX11_reads_12 rfl (lv_at hl 0 rfl) ?_
                refine lv_bipush (v := 10) hx hb dX11_reads_13 (by decide) ?_
                refine lv_icmp_ge (tgt := 31) hx hb dX11_reads_15 (by decide) (fun c_474 => ?_) (fun c_474 => ?_)
                · exact absurd c_474 (by decide)
                · refine lv_aload_n hx hb dX11_reads_18 rfl (lv_at hl 1 rfl) ?_
                  refine q_get C h k_459 fl_X11_13 (v := .ref (M 2)) rfl dX11_reads_19 ?_
                  refine lv_iload_n hx hb dX11_reads_22 rfl (lv_at hl 0 rfl) ?_
                  refine lv_iconst (v := 0) hx hb dX11_reads_23 (by decide) ?_
                  refine q_iast C h k_455 (by unfold vp_in; decide) dX11_reads_24 (fun H locs h => ?_)
                  rw [upd0] at h
                  rw [hu_id k_455] at h
                  refine lv_iinc (v := 8) (lv' := [(1, .int 8), (0, .ref (M 0))]) hx hb dX11_reads_25 hl (k := 0) rfl (by decide) (by decide) rfl (fun ls hl => ?_)
                  refine lv_goto (tgt := 12) hx hb dX11_reads_28 (by decide) ?_
                  refine lv_iload_n hx hb dX11_reads_12 rfl (lv_at hl 0 rfl) ?_
                  refine lv_bipush (v := 10) hx hb dX11_reads_13 (by decide) ?_
                  refine lv_icmp_ge (tgt := 31) hx hb dX11_reads_15 (by decide) (fun c_476 => ?_) (fun c_476 => ?_)
                  · exact absurd c_476 (by decide)
                  · refine lv_aload_n hx hb dX11_reads_18 rfl (lv_at hl 1 rfl) ?_
                    refine q_get C h k_459 fl_X11_13 (v := .ref (M 2)) rfl dX11_reads_19 ?_
                    refine lv_iload_n hx hb dX11_reads_22 rfl (lv_at hl 0 rfl) ?_
                    refine lv_iconst (v := 0) hx hb dX11_reads_23 (by decide) ?_
                    refine q_iast C h k_455 (by unfold vp_in; decide) dX11_reads_24 (fun H locs h => ?_)
                    rw [upd0] at h
                    rw [hu_id k_455] at h
                    refine lv_iinc (v := 9) (lv' := [(1, .int 9), (0, .ref (M 0))]) hx hb dX11_reads_25 hl (k := 0) rfl (by decide) (by decide) rfl (fun ls hl => ?_)
                    refine lv_goto (tgt := 12) hx hb dX11_reads_28 (by decide) ?_
                    refine lv_iload_n hx hb dX11_reads_12 rfl (lv_at hl 0 rfl) ?_
                    refine lv_bipush (v := 10) hx hb dX11_reads_13 (by decide) ?_
                    refine lv_icmp_ge (tgt := 31) hx hb dX11_reads_15 (by decide) (fun c_478 => ?_) (fun c_478 => ?_)
                    · exact absurd c_478 (by decide)
                    · refine lv_aload_n hx hb dX11_reads_18 rfl (lv_at hl 1 rfl) ?_
                      refine q_get C h k_459 fl_X11_13 (v := .ref (M 2)) rfl dX11_reads_19 ?_
                      refine lv_iload_n hx hb dX11_reads_22 rfl (lv_at hl 0 rfl) ?_
                      refine lv_iconst (v := 0) hx hb dX11_reads_23 (by decide) ?_
                      refine q_iast C h k_455 (by unfold vp_in; decide) dX11_reads_24 (fun H locs h => ?_)
                      rw [upd0] at h
                      rw [hu_id k_455] at h
                      refine lv_iinc (v := 10) (lv' := [(1, .int 10), (0, .ref (M 0))]) hx hb dX11_reads_25 hl (k := 0) rfl (by decide) (by decide) rfl (fun ls hl => ?_)
                      refine lv_goto (tgt := 12) hx hb dX11_reads_28 (by decide) ?_
                      refine lv_iload_n hx hb dX11_reads_12 rfl (lv_at hl 0 rfl) ?_
                      refine lv_bipush (v := 10) hx hb dX11_reads_13 (by decide) ?_
                      refine lv_icmp_ge (tgt := 31) hx hb dX11_reads_15 (by decide) (fun c_480 => ?_) (fun c_480 => ?_)
                      · refine lv_aload_n hx hb dX11_reads_31 rfl (lv_at hl 1 rfl) ?_
                        refine k_v (r_V C h hl (As := []) (rest := []) (c_X11_readsStep l D G b0 f_453 M k_459) k_459 (Cn := RX11) (T := TX11) (N := 32) rfl rfl mk_X11_readsStep w_1557 w_1559 w_39 w_1560 ⟨Nat.le_of_ble_eq_true rfl, Nat.le_of_ble_eq_true rfl⟩ rfl (Nat.le_of_ble_eq_true rfl) ⟨Nat.le_of_ble_eq_true rfl, Nat.le_of_ble_eq_true rfl⟩ rfl dX11_reads_32) h (fun f_482 H locs p_483 h => ?_)
                        have k_484 : f_482 (M 1) = some (.inl (G 0, 200, .inl (fun _ => 0))) := by rw [← p_483]; exact hu_at k_454 (hne (4, 12) (1, 200) k_459 k_454 rfl rfl (by decide))
                        have k_485 : f_482 (M 2) = some (.inl (G 1, 10, .inl (fun _ => 0))) := by rw [← p_483]; exact hu_at k_455 (hne (4, 12) (1, 10) k_459 k_455 rfl rfl (by decide))
                        have k_486 : f_482 (M 3) = some (.inl (G 1, 81, .inl (fun _ => 0))) := by rw [← p_483]; exact hu_at k_456 (hne (4, 12) (1, 81) k_459 k_456 rfl rfl (by decide))
                        have k_487 : f_482 (M 4) = some (.inl (G 1, 81, .inl (fun _ => 0))) := by rw [← p_483]; exact hu_at k_457 (hne (4, 12) (1, 81) k_459 k_457 rfl rfl (by decide))
                        have k_488 : f_482 (M 6) = some (.inl (G 1, 4, .inl (fun _ => 0))) := by rw [← p_483]; exact hu_at k_458 (hne (4, 12) (1, 4) k_459 k_458 rfl rfl (by decide))
                        have k_489 : f_482 (M 0) = some (.inr (12, [.int 0, .ref (M 1), .int 0, .int 0, .int 0, .ref (M 2), .ref (M 3), .ref (M 4), .ref (M 5), .ref (M 6), .int 0, .int 0, .ref (M 7), .ref (M 8), .int 0, .ref (M 9), .ref (M 10), .ref (M 11), .long 0, .ref (M 12), .ref (M 13), .ref (M 14), .ref (M 15), .ref (M 16), .ref (M 17), .ref (M 18), .ref (M 19), .int 0, .int 0, .ref (M 20), .ref (M 21), .int 0])) := by rw [← p_483]; exact hu_self _ _ _
                        refine lv_aload_n hx hb dX11_reads_35 rfl (lv_at hl 1 rfl) ?_
                        refine q_get C h k_489 fl_X11_97 (v := .int 0) rfl dX11_reads_36 ?_
                        refine lv_iconst (v := -1) hx hb dX11_reads_39 (by decide) ?_
                        refine lv_icmp_ne (tgt := 60) hx hb dX11_reads_40 (by decide) (fun c_490 => ?_) (fun c_490 => ?_)
                        · refine lv_aload_n hx hb dX11_reads_60 rfl (lv_at hl 1 rfl) ?_
                          refine q_get C h k_489 fl_X11_97 (v := .int 0) rfl dX11_reads_61 ?_
                          refine lv_iconst (v := -1) hx hb dX11_reads_64 (by decide) ?_
                          refine lv_icmp_ne (tgt := 81) hx hb dX11_reads_65 (by decide) (fun c_491 => ?_) (fun c_491 => ?_)
                          · refine lv_aload_n hx hb dX11_reads_81 rfl (lv_at hl 1 rfl) ?_
                            refine q_get C h k_489 fl_X11_97 (v := .int 0) rfl dX11_reads_82 ?_
                            refine lv_iconst (v := -1) hx hb dX11_reads_85 (by decide) ?_
                            refine lv_icmp_ne (tgt := 105) hx hb dX11_reads_86 (by decide) (fun c_492 => ?_) (fun c_492 => ?_)
                            · refine lv_aload_n hx hb dX11_reads_105 rfl (lv_at hl 1 rfl) ?_
                              refine q_get C h k_489 fl_X11_97 (v := .int 0) rfl dX11_reads_106 ?_
                              exact q_iret C h hr (⟨rfl, by rw [← p_483, ← ef_453, hu_hu, hu_id km0]⟩) (Nat.le_of_ble_eq_true rfl) (Nat.le_of_ble_eq_true rfl) dX11_reads_109
                            · exact absurd c_492 (by decide)
                          · exact absurd c_491 (by decide)
                        · exact absurd c_490 (by decide)
                      · exact absurd c_480 (by decide)
set_option maxRecDepth 100000 in
set_option maxHeartbeats 4000000 in
theorem c_X11_fault (l : Launch) (D : va_G) (G : Nat → Nat) (b0 : Nat) (f : hM) (M : Nat → Nat) (hM : mw G f M) : mI l yX11_fault cX11_fault 1 (.int) { frames := 6, cells := 0, slots := 0, locals := 127 } D G b0 f [.ref (M 0)] (fun r f1 => (0 : Int32) = r) := by
  refine met_of (own := RX11) (by decide) rfl (Nat.le_of_ble_eq_true rfl) ?_
  intro p e s m below meth c ls C hr hini hl h
  have hl : lv_has ls 1 [(0, .ref (M 0))] := hl
  obtain ⟨hx, hb, hml, hown, hts, hE0, hlk⟩ := id C
  obtain ⟨km0, km1, km2, km3, km4, km5⟩ := hM
  refine lv_aload_n hx hb dX11_fault_0 rfl (lv_at hl 0 rfl) ?_
  refine lv_iconst (v := 0) hx hb dX11_fault_1 (by decide) ?_
  refine q_put C h km0 flw_X11_75 (Or.inr ⟨_, _, _, rfl, rfl⟩) (v := .int 0) rfl rfl (Nat.le_of_ble_eq_true rfl) dX11_fault_2 (fun H locs h => ?_)
  have h : hw D b0 s.heap (hu f (M 0) (.inr (12, [.int 0, .ref (M 1), .int 0, .int 0, .int 0, .ref (M 2), .ref (M 3), .ref (M 4), .ref (M 5), .ref (M 6), .int 0, .int 0, .ref (M 7), .ref (M 8), .int 0, .ref (M 9), .ref (M 10), .ref (M 11), .long 0, .ref (M 12), .ref (M 13), .ref (M 14), .ref (M 15), .ref (M 16), .ref (M 17), .ref (M 18), .ref (M 19), .int 0, .int 0, .ref (M 20), .ref (M 21), .int 0]))) H locs := h
  rw [hu_id km0] at h
  refine lv_aload_n hx hb dX11_fault_5 rfl (lv_at hl 0 rfl) ?_
  refine k_i (r_V C h hl (As := []) (rest := []) (c_X11_reads l D G b0 f M ⟨km0, km1, km2, km3, km4, km5⟩ ) km0 (Cn := RX11) (T := TX11) (N := 32) rfl rfl mk_X11_reads w_1553 w_1555 w_38 w_1556 ⟨Nat.le_of_ble_eq_true rfl, Nat.le_of_ble_eq_true rfl⟩ rfl (Nat.le_of_ble_eq_true rfl) ⟨Nat.le_of_ble_eq_true rfl, Nat.le_of_ble_eq_true rfl⟩ rfl dX11_fault_6) h (fun r_493 f_494 H locs p_495 h => ?_)
  obtain ⟨e_, rfl⟩ := p_495
  subst e_
  exact q_iret C h hr (rfl) (Nat.le_of_ble_eq_true rfl) (Nat.le_of_ble_eq_true rfl) dX11_fault_9
set_option maxRecDepth 100000 in
set_option maxHeartbeats 4000000 in
theorem c_X11_tell (l : Launch) (D : va_G) (G : Nat → Nat) (b0 : Nat) (f : hM) (M : Nat → Nat) (hM : mw G f M) : mI l yX11_tell cX11_tell 1 (.int) { frames := 6, cells := 0, slots := 0, locals := 127 } D G b0 f [.ref (M 0)] (fun r f1 => (-1 : Int32) = r) := by
  refine met_of (own := RX11) (by decide) rfl (Nat.le_of_ble_eq_true rfl) ?_
  intro p e s m below meth c ls C hr hini hl h
  have hl : lv_has ls 1 [(0, .ref (M 0))] := hl
  obtain ⟨hx, hb, hml, hown, hts, hE0, hlk⟩ := id C
  obtain ⟨km0, km1, km2, km3, km4, km5⟩ := hM
  refine lv_aload_n hx hb dX11_tell_0 rfl (lv_at hl 0 rfl) ?_
  refine lv_iconst (v := 0) hx hb dX11_tell_1 (by decide) ?_
  refine q_put C h km0 flw_X11_75 (Or.inr ⟨_, _, _, rfl, rfl⟩) (v := .int 0) rfl rfl (Nat.le_of_ble_eq_true rfl) dX11_tell_2 (fun H locs h => ?_)
  have h : hw D b0 s.heap (hu f (M 0) (.inr (12, [.int 0, .ref (M 1), .int 0, .int 0, .int 0, .ref (M 2), .ref (M 3), .ref (M 4), .ref (M 5), .ref (M 6), .int 0, .int 0, .ref (M 7), .ref (M 8), .int 0, .ref (M 9), .ref (M 10), .ref (M 11), .long 0, .ref (M 12), .ref (M 13), .ref (M 14), .ref (M 15), .ref (M 16), .ref (M 17), .ref (M 18), .ref (M 19), .int 0, .int 0, .ref (M 20), .ref (M 21), .int 0]))) H locs := h
  rw [hu_id km0] at h
  refine lv_aload_n hx hb dX11_tell_5 rfl (lv_at hl 0 rfl) ?_
  refine k_i (r_V C h hl (As := []) (rest := []) (c_X11_reads l D G b0 f M ⟨km0, km1, km2, km3, km4, km5⟩ ) km0 (Cn := RX11) (T := TX11) (N := 32) rfl rfl mk_X11_reads w_1553 w_1555 w_38 w_1556 ⟨Nat.le_of_ble_eq_true rfl, Nat.le_of_ble_eq_true rfl⟩ rfl (Nat.le_of_ble_eq_true rfl) ⟨Nat.le_of_ble_eq_true rfl, Nat.le_of_ble_eq_true rfl⟩ rfl dX11_tell_6) h (fun r_496 f_497 H locs p_498 h => ?_)
  obtain ⟨e_, rfl⟩ := p_498
  subst e_
  refine lv_iconst (v := -1) hx hb dX11_tell_9 (by decide) ?_
  refine lv_icmp_eq (tgt := 19) hx hb dX11_tell_10 (by decide) (fun c_499 => ?_) (fun c_499 => ?_)
  · exact absurd c_499 (by decide)
  · refine lv_aload_n hx hb dX11_tell_13 rfl (lv_at hl 0 rfl) ?_
    refine lv_iconst (v := 0) hx hb dX11_tell_14 (by decide) ?_
    refine k_i (r_V C h hl (As := [.int 0]) (rest := []) (c_X11_refuse l D G b0 f M ⟨km0, km1, km2, km3, km4, km5⟩ ) km0 (Cn := RX11) (T := TX11) (N := 32) rfl rfl mk_X11_refuse w_1608 w_1610 w_48 w_1611 ⟨Nat.le_of_ble_eq_true rfl, Nat.le_of_ble_eq_true rfl⟩ rfl (Nat.le_of_ble_eq_true rfl) ⟨Nat.le_of_ble_eq_true rfl, Nat.le_of_ble_eq_true rfl⟩ rfl dX11_tell_15) h (fun r_500 f_501 H locs p_502 h => ?_)
    subst p_502
    exact q_iret C h hr (rfl) (Nat.le_of_ble_eq_true rfl) (Nat.le_of_ble_eq_true rfl) dX11_tell_18
set_option maxRecDepth 100000 in
set_option maxHeartbeats 4000000 in
theorem c_X11_undo (l : Launch) (D : va_G) (G : Nat → Nat) (b0 : Nat) (f : hM) (M : Nat → Nat) (hM : mw G f M) : mI l yX11_undo cX11_undo 2 (.int) { frames := 0, cells := 0, slots := 0, locals := 0 } D G b0 f [.ref (M 0)] (fun r f1 => (-1 : Int32) = r) := by
  refine met_of (own := RX11) (by decide) rfl (Nat.le_of_ble_eq_true rfl) ?_
  intro p e s m below meth c ls C hr hini hl h
  have hl : lv_has ls 2 [(0, .ref (M 0))] := hl
  obtain ⟨hx, hb, hml, hown, hts, hE0, hlk⟩ := id C
  obtain ⟨km0, km1, km2, km3, km4, km5⟩ := hM
  refine lv_aload_n hx hb dX11_undo_0 rfl (lv_at hl 0 rfl) ?_
  refine lv_iconst (v := 0) hx hb dX11_undo_1 (by decide) ?_
  refine q_put C h km0 flw_X11_75 (Or.inr ⟨_, _, _, rfl, rfl⟩) (v := .int 0) rfl rfl (Nat.le_of_ble_eq_true rfl) dX11_undo_2 (fun H locs h => ?_)
  have h : hw D b0 s.heap (hu f (M 0) (.inr (12, [.int 0, .ref (M 1), .int 0, .int 0, .int 0, .ref (M 2), .ref (M 3), .ref (M 4), .ref (M 5), .ref (M 6), .int 0, .int 0, .ref (M 7), .ref (M 8), .int 0, .ref (M 9), .ref (M 10), .ref (M 11), .long 0, .ref (M 12), .ref (M 13), .ref (M 14), .ref (M 15), .ref (M 16), .ref (M 17), .ref (M 18), .ref (M 19), .int 0, .int 0, .ref (M 20), .ref (M 21), .int 0]))) H locs := h
  rw [hu_id km0] at h
  refine lv_aload_n hx hb dX11_undo_5 rfl (lv_at hl 0 rfl) ?_
  refine q_get C h km0 fl_X11_155 (v := .int 0) rfl dX11_undo_6 ?_
  refine lv_if_ne (tgt := 14) hx hb dX11_undo_9 (by decide) (fun c_503 => ?_) (fun c_503 => ?_)
  · exact absurd c_503 (by decide)
  · refine lv_iconst (v := -1) hx hb dX11_undo_12 (by decide) ?_
    exact q_iret C h hr (rfl) (Nat.le_of_ble_eq_true rfl) (Nat.le_of_ble_eq_true rfl) dX11_undo_13
set_option maxRecDepth 100000 in
set_option maxHeartbeats 4000000 in
theorem c_X11_back (l : Launch) (D : va_G) (G : Nat → Nat) (b0 : Nat) (f : hM) (M : Nat → Nat) (hM : mw G f M) : mI l yX11_back cX11_back 2 (.int) { frames := 0, cells := 0, slots := 0, locals := 0 } D G b0 f [.ref (M 0)] (fun r f1 => (-1 : Int32) = r) := by
  refine met_of (own := RX11) (by decide) rfl (Nat.le_of_ble_eq_true rfl) ?_
  intro p e s m below meth c ls C hr hini hl h
  have hl : lv_has ls 2 [(0, .ref (M 0))] := hl
  obtain ⟨hx, hb, hml, hown, hts, hE0, hlk⟩ := id C
  obtain ⟨km0, km1, km2, km3, km4, km5⟩ := hM
  refine lv_aload_n hx hb dX11_back_0 rfl (lv_at hl 0 rfl) ?_
  refine lv_iconst (v := 0) hx hb dX11_back_1 (by decide) ?_
  refine q_put C h km0 flw_X11_75 (Or.inr ⟨_, _, _, rfl, rfl⟩) (v := .int 0) rfl rfl (Nat.le_of_ble_eq_true rfl) dX11_back_2 (fun H locs h => ?_)
  have h : hw D b0 s.heap (hu f (M 0) (.inr (12, [.int 0, .ref (M 1), .int 0, .int 0, .int 0, .ref (M 2), .ref (M 3), .ref (M 4), .ref (M 5), .ref (M 6), .int 0, .int 0, .ref (M 7), .ref (M 8), .int 0, .ref (M 9), .ref (M 10), .ref (M 11), .long 0, .ref (M 12), .ref (M 13), .ref (M 14), .ref (M 15), .ref (M 16), .ref (M 17), .ref (M 18), .ref (M 19), .int 0, .int 0, .ref (M 20), .ref (M 21), .int 0]))) H locs := h
  rw [hu_id km0] at h
  refine lv_aload_n hx hb dX11_back_5 rfl (lv_at hl 0 rfl) ?_
  refine q_get C h km0 fl_X11_437 (v := .int 0) rfl dX11_back_6 ?_
  refine lv_if_ne (tgt := 14) hx hb dX11_back_9 (by decide) (fun c_504 => ?_) (fun c_504 => ?_)
  · exact absurd c_504 (by decide)
  · refine lv_iconst (v := -1) hx hb dX11_back_12 (by decide) ?_
    exact q_iret C h hr (rfl) (Nat.le_of_ble_eq_true rfl) (Nat.le_of_ble_eq_true rfl) dX11_back_13
set_option maxRecDepth 100000 in
set_option maxHeartbeats 4000000 in
theorem c_X11_unlike (l : Launch) (D : va_G) (G : Nat → Nat) (b0 : Nat) (f : hM) (M : Nat → Nat) (hM : mw G f M) : mI l yX11_unlike cX11_unlike 5 (.int) { frames := 0, cells := 0, slots := 0, locals := 0 } D G b0 f [.ref (M 0)] (fun r f1 => (0 : Int32) = r ∧ f = f1) := by
  refine met_of (own := RX11) (by decide) rfl (Nat.le_of_ble_eq_true rfl) ?_
  intro p e s m below meth c ls C hr hini hl h
  have hl : lv_has ls 5 [(0, .ref (M 0))] := hl
  obtain ⟨hx, hb, hml, hown, hts, hE0, hlk⟩ := id C
  obtain ⟨km0, km1, km2, km3, km4, km5⟩ := hM
  refine lv_iconst (v := 0) hx hb dX11_unlike_0 (by decide) ?_
  refine lv_istore_n (lv' := [(1, .int 0), (0, .ref (M 0))]) hx hb dX11_unlike_1 rfl hl (by decide) rfl (fun ls hl => ?_)
  refine lv_iconst (v := 0) hx hb dX11_unlike_2 (by decide) ?_
  refine lv_istore_n (lv' := [(2, .int 0), (1, .int 0), (0, .ref (M 0))]) hx hb dX11_unlike_3 rfl hl (by decide) rfl (fun ls hl => ?_)
  refine lv_iload_n hx hb dX11_unlike_4 rfl (lv_at hl 0 rfl) ?_
  refine lv_aload_n hx hb dX11_unlike_5 rfl (lv_at hl 2 rfl) ?_
  refine q_get C h km0 fl_X11_17 (v := .ref (M 3)) rfl dX11_unlike_6 ?_
  refine lv_bipush (v := 80) hx hb dX11_unlike_9 (by decide) ?_
  refine q_iald C h km3 (by unfold vp_in; decide) dX11_unlike_11 ?_
  refine lv_topi (fun x_ e_ => ?_)
  obtain rfl : 0 = x_ := e_.symm
  refine lv_icmp_ge (tgt := 68) hx hb dX11_unlike_12 (by decide) (fun c_505 => ?_) (fun c_505 => ?_)
  · refine lv_iload_n hx hb dX11_unlike_68 rfl (lv_at hl 1 rfl) ?_
    exact q_iret C h hr (⟨rfl, rfl⟩) (Nat.le_of_ble_eq_true rfl) (Nat.le_of_ble_eq_true rfl) dX11_unlike_69
  · exact absurd c_505 (by decide)
set_option maxRecDepth 100000 in
set_option maxHeartbeats 4000000 in
theorem c_X11_image (l : Launch) (D : va_G) (G : Nat → Nat) (b0 : Nat) (f : hM) (M : Nat → Nat) (hM : mw G f M) : mI l yX11_image cX11_image 2 (.int) { frames := 0, cells := 0, slots := 0, locals := 0 } D G b0 f [.ref (M 0)] (fun r f1 => (0 : Int32) = r) := by
  refine met_of (own := RX11) (by decide) rfl (Nat.le_of_ble_eq_true rfl) ?_
  intro p e s m below meth c ls C hr hini hl h
  have hl : lv_has ls 2 [(0, .ref (M 0))] := hl
  obtain ⟨hx, hb, hml, hown, hts, hE0, hlk⟩ := id C
  obtain ⟨km0, km1, km2, km3, km4, km5⟩ := hM
  refine lv_aload_n hx hb dX11_image_0 rfl (lv_at hl 0 rfl) ?_
  refine lv_iconst (v := 0) hx hb dX11_image_1 (by decide) ?_
  refine q_put C h km0 flw_X11_75 (Or.inr ⟨_, _, _, rfl, rfl⟩) (v := .int 0) rfl rfl (Nat.le_of_ble_eq_true rfl) dX11_image_2 (fun H locs h => ?_)
  have h : hw D b0 s.heap (hu f (M 0) (.inr (12, [.int 0, .ref (M 1), .int 0, .int 0, .int 0, .ref (M 2), .ref (M 3), .ref (M 4), .ref (M 5), .ref (M 6), .int 0, .int 0, .ref (M 7), .ref (M 8), .int 0, .ref (M 9), .ref (M 10), .ref (M 11), .long 0, .ref (M 12), .ref (M 13), .ref (M 14), .ref (M 15), .ref (M 16), .ref (M 17), .ref (M 18), .ref (M 19), .int 0, .int 0, .ref (M 20), .ref (M 21), .int 0]))) H locs := h
  rw [hu_id km0] at h
  refine lv_iconst (v := 0) hx hb dX11_image_5 (by decide) ?_
  refine lv_istore_n (lv' := [(1, .int 0), (0, .ref (M 0))]) hx hb dX11_image_6 rfl hl (by decide) rfl (fun ls hl => ?_)
  refine lv_iload_n hx hb dX11_image_7 rfl (lv_at hl 0 rfl) ?_
  refine lv_bipush (v := 81) hx hb dX11_image_8 (by decide) ?_
  refine lv_icmp_ge (tgt := 31) hx hb dX11_image_10 (by decide) (fun c_506 => ?_) (fun c_506 => ?_)
  · exact absurd c_506 (by decide)
  · refine lv_aload_n hx hb dX11_image_13 rfl (lv_at hl 1 rfl) ?_
    refine q_get C h km0 fl_X11_20 (v := .ref (M 4)) rfl dX11_image_14 ?_
    refine lv_iload_n hx hb dX11_image_17 rfl (lv_at hl 0 rfl) ?_
    refine lv_aload_n hx hb dX11_image_18 rfl (lv_at hl 1 rfl) ?_
    refine q_get C h km0 fl_X11_17 (v := .ref (M 3)) rfl dX11_image_19 ?_
    refine lv_iload_n hx hb dX11_image_22 rfl (lv_at hl 0 rfl) ?_
    refine q_iald C h km3 (by unfold vp_in; decide) dX11_image_23 ?_
    refine lv_topi (fun x_ e_ => ?_)
    obtain rfl : 0 = x_ := e_.symm
    refine q_iast C h km4 (by unfold vp_in; decide) dX11_image_24 (fun H locs h => ?_)
    rw [upd0] at h
    rw [hu_id km4] at h
    refine lv_iinc (v := 1) (lv' := [(1, .int 1), (0, .ref (M 0))]) hx hb dX11_image_25 hl (k := 0) rfl (by decide) (by decide) rfl (fun ls hl => ?_)
    refine lv_goto (tgt := 7) hx hb dX11_image_28 (by decide) ?_
    refine lv_iload_n hx hb dX11_image_7 rfl (lv_at hl 0 rfl) ?_
    refine lv_bipush (v := 81) hx hb dX11_image_8 (by decide) ?_
    refine lv_icmp_ge (tgt := 31) hx hb dX11_image_10 (by decide) (fun c_508 => ?_) (fun c_508 => ?_)
    · exact absurd c_508 (by decide)
    · refine lv_aload_n hx hb dX11_image_13 rfl (lv_at hl 1 rfl) ?_
      refine q_get C h km0 fl_X11_20 (v := .ref (M 4)) rfl dX11_image_14 ?_
      refine lv_iload_n hx hb dX11_image_17 rfl (lv_at hl 0 rfl) ?_
      refine lv_aload_n hx hb dX11_image_18 rfl (lv_at hl 1 rfl) ?_
      refine q_get C h km0 fl_X11_17 (v := .ref (M 3)) rfl dX11_image_19 ?_
      refine lv_iload_n hx hb dX11_image_22 rfl (lv_at hl 0 rfl) ?_
      refine q_iald C h km3 (by unfold vp_in; decide) dX11_image_23 ?_
      refine lv_topi (fun x_ e_ => ?_)
      obtain rfl : 0 = x_ := e_.symm
      refine q_iast C h km4 (by unfold vp_in; decide) dX11_image_24 (fun H locs h => ?_)
      rw [upd0] at h
      rw [hu_id km4] at h
      refine lv_iinc (v := 2) (lv' := [(1, .int 2), (0, .ref (M 0))]) hx hb dX11_image_25 hl (k := 0) rfl (by decide) (by decide) rfl (fun ls hl => ?_)
      refine lv_goto (tgt := 7) hx hb dX11_image_28 (by decide) ?_
      refine lv_iload_n hx hb dX11_image_7 rfl (lv_at hl 0 rfl) ?_
      refine lv_bipush (v := 81) hx hb dX11_image_8 (by decide) ?_
      refine lv_icmp_ge (tgt := 31) hx hb dX11_image_10 (by decide) (fun c_510 => ?_) (fun c_510 => ?_)
      · exact absurd c_510 (by decide)
      · refine lv_aload_n hx hb dX11_image_13 rfl (lv_at hl 1 rfl) ?_
        refine q_get C h km0 fl_X11_20 (v := .ref (M 4)) rfl dX11_image_14 ?_
        refine lv_iload_n hx hb dX11_image_17 rfl (lv_at hl 0 rfl) ?_
        refine lv_aload_n hx hb dX11_image_18 rfl (lv_at hl 1 rfl) ?_
        refine q_get C h km0 fl_X11_17 (v := .ref (M 3)) rfl dX11_image_19 ?_
        refine lv_iload_n hx hb dX11_image_22 rfl (lv_at hl 0 rfl) ?_
        refine q_iald C h km3 (by unfold vp_in; decide) dX11_image_23 ?_
        refine lv_topi (fun x_ e_ => ?_)
        obtain rfl : 0 = x_ := e_.symm
        refine q_iast C h km4 (by unfold vp_in; decide) dX11_image_24 (fun H locs h => ?_)
        rw [upd0] at h
        rw [hu_id km4] at h
        refine lv_iinc (v := 3) (lv' := [(1, .int 3), (0, .ref (M 0))]) hx hb dX11_image_25 hl (k := 0) rfl (by decide) (by decide) rfl (fun ls hl => ?_)
        refine lv_goto (tgt := 7) hx hb dX11_image_28 (by decide) ?_
        refine lv_iload_n hx hb dX11_image_7 rfl (lv_at hl 0 rfl) ?_
        refine lv_bipush (v := 81) hx hb dX11_image_8 (by decide) ?_
        refine lv_icmp_ge (tgt := 31) hx hb dX11_image_10 (by decide) (fun c_512 => ?_) (fun c_512 => ?_)
        · exact absurd c_512 (by decide)
        · refine lv_aload_n hx hb dX11_image_13 rfl (lv_at hl 1 rfl) ?_
          refine q_get C h km0 fl_X11_20 (v := .ref (M 4)) rfl dX11_image_14 ?_
          refine lv_iload_n hx hb dX11_image_17 rfl (lv_at hl 0 rfl) ?_
          refine lv_aload_n hx hb dX11_image_18 rfl (lv_at hl 1 rfl) ?_
          refine q_get C h km0 fl_X11_17 (v := .ref (M 3)) rfl dX11_image_19 ?_
          refine lv_iload_n hx hb dX11_image_22 rfl (lv_at hl 0 rfl) ?_
          refine q_iald C h km3 (by unfold vp_in; decide) dX11_image_23 ?_
          refine lv_topi (fun x_ e_ => ?_)
          obtain rfl : 0 = x_ := e_.symm
          refine q_iast C h km4 (by unfold vp_in; decide) dX11_image_24 (fun H locs h => ?_)
          rw [upd0] at h
          rw [hu_id km4] at h
          refine lv_iinc (v := 4) (lv' := [(1, .int 4), (0, .ref (M 0))]) hx hb dX11_image_25 hl (k := 0) rfl (by decide) (by decide) rfl (fun ls hl => ?_)
          refine lv_goto (tgt := 7) hx hb dX11_image_28 (by decide) ?_
          refine lv_iload_n hx hb dX11_image_7 rfl (lv_at hl 0 rfl) ?_
          refine lv_bipush (v := 81) hx hb dX11_image_8 (by decide) ?_
          refine lv_icmp_ge (tgt := 31) hx hb dX11_image_10 (by decide) (fun c_514 => ?_) (fun c_514 => ?_)
          · exact absurd c_514 (by decide)
          · refine lv_aload_n hx hb dX11_image_13 rfl (lv_at hl 1 rfl) ?_
            refine q_get C h km0 fl_X11_20 (v := .ref (M 4)) rfl dX11_image_14 ?_
            refine lv_iload_n hx hb dX11_image_17 rfl (lv_at hl 0 rfl) ?_
            refine lv_aload_n hx hb dX11_image_18 rfl (lv_at hl 1 rfl) ?_
            refine q_get C h km0 fl_X11_17 (v := .ref (M 3)) rfl dX11_image_19 ?_
            refine lv_iload_n hx hb dX11_image_22 rfl (lv_at hl 0 rfl) ?_
            refine q_iald C h km3 (by unfold vp_in; decide) dX11_image_23 ?_
            refine lv_topi (fun x_ e_ => ?_)
            obtain rfl : 0 = x_ := e_.symm
            refine q_iast C h km4 (by unfold vp_in; decide) dX11_image_24 (fun H locs h => ?_)
            rw [upd0] at h
            rw [hu_id km4] at h
            refine lv_iinc (v := 5) (lv' := [(1, .int 5), (0, .ref (M 0))]) hx hb dX11_image_25 hl (k := 0) rfl (by decide) (by decide) rfl (fun ls hl => ?_)
            refine lv_goto (tgt := 7) hx hb dX11_image_28 (by decide) ?_
            refine lv_iload_n hx hb dX11_image_7 rfl (lv_at hl 0 rfl) ?_
            refine lv_bipush (v := 81) hx hb dX11_image_8 (by decide) ?_
            refine lv_icmp_ge (tgt := 31) hx hb dX11_image_10 (by decide) (fun c_516 => ?_) (fun c_516 => ?_)
            · exact absurd c_516 (by decide)
            · refine lv_aload_n hx hb dX11_image_13 rfl (lv_at hl 1 rfl) ?_
              refine q_get C h km0 fl_X11_20 (v := .ref (M 4)) rfl dX11_image_14 ?_
              refine lv_iload_n hx hb dX11_image_17 rfl (lv_at hl 0 rfl) ?_
              refine lv_aload_n hx hb dX11_image_18 rfl (lv_at hl 1 rfl) ?_
              refine q_get C h km0 fl_X11_17 (v := .ref (M 3)) rfl dX11_image_19 ?_
              refine lv_iload_n hx hb dX11_image_22 rfl (lv_at hl 0 rfl) ?_
              refine q_iald C h km3 (by unfold vp_in; decide) dX11_image_23 ?_
              refine lv_topi (fun x_ e_ => ?_)
              obtain rfl : 0 = x_ := e_.symm
              refine q_iast C h km4 (by unfold vp_in; decide) dX11_image_24 (fun H locs h => ?_)
              rw [upd0] at h
              rw [hu_id km4] at h
              refine lv_iinc (v := 6) (lv' := [(1, .int 6), (0, .ref (M 0))]) hx hb dX11_image_25 hl (k := 0) rfl (by decide) (by decide) rfl (fun ls hl => ?_)
              refine lv_goto (tgt := 7) hx hb dX11_image_28 (by decide) ?_
              refine lv_iload_n hx hb dX11_image_7 rfl (lv_at hl 0 rfl) ?_
              refine lv_bipush (v := 81) hx hb dX11_image_8 (by decide) ?_
              refine lv_icmp_ge (tgt := 31) hx hb dX11_image_10 (by decide) (fun c_518 => ?_) (fun c_518 => ?_)
              · exact absurd c_518 (by decide)
              · refine lv_aload_n hx hb dX11_image_13 rfl (lv_at hl 1 rfl) ?_
                refine q_get C h km0 fl_X11_20 (v := .ref (M 4)) rfl dX11_image_14 ?_
                refine lv_iload_n hx hb dX11_image_17 rfl (lv_at hl 0 rfl) ?_
                refine lv_aload_n hx hb dX11_image_18 rfl (lv_at hl 1 rfl) ?_
                refine q_get C h km0 fl_X11_17 (v := .ref (M 3)) rfl dX11_image_19 ?_
                refine lv_iload_n hx hb dX11_image_22 rfl (lv_at hl 0 rfl) ?_
                refine q_iald C h km3 (by unfold vp_in; decide) dX11_image_23 ?_
                refine lv_topi (fun x_ e_ => ?_)
                obtain rfl : 0 = x_ := e_.symm
                refine q_iast C h km4 (by unfold vp_in; decide) dX11_image_24 (fun H locs h => ?_)
                rw [upd0] at h
                rw [hu_id km4] at h
                refine lv_iinc (v := 7) (lv' := [(1, .int 7), (0, .ref (M 0))]) hx hb dX11_image_25 hl (k := 0) rfl (by decide) (by decide) rfl (fun ls hl => ?_)
                refine lv_goto (tgt := 7) hx hb dX11_image_28 (by decide) ?_
                refine lv_iload_n hx hb dX11_image_7 rfl (lv_at hl 0 rfl) ?_
                refine lv_bipush (v := 81) hx hb dX11_image_8 (by decide) ?_
                refine lv_icmp_ge (tgt := 31) hx hb dX11_image_10 (by decide) (fun c_520 => ?_) (fun c_520 => ?_)
                · exact absurd c_520 (by decide)
                · refine lv_aload_n hx hb dX11_image_13 rfl (lv_at hl 1 rfl) ?_
                  refine q_get C h km0 fl_X11_20 (v := .ref (M 4)) rfl dX11_image_14 ?_
                  refine lv_iload_n hx hb dX11_image_17 rfl (lv_at hl 0 rfl) ?_
                  refine lv_aload_n hx hb dX11_image_18 rfl (lv_at hl 1 rfl) ?_
                  refine q_get C h km0 fl_X11_17 (v := .ref (M 3)) rfl dX11_image_19 ?_
                  refine lv_iload_n hx hb dX11_image_22 rfl (lv_at hl 0 rfl) ?_
                  refine q_iald C h km3 (by unfold vp_in; decide) dX11_image_23 ?_
                  refine lv_topi (fun x_ e_ => ?_)
                  obtain rfl : 0 = x_ := e_.symm
                  refine q_iast C h km4 (by unfold vp_in; decide) dX11_image_24 (fun H locs h => ?_)
                  rw [upd0] at h
                  rw [hu_id km4] at h
                  refine lv_iinc (v := 8) (lv' := [(1, .int 8), (0, .ref (M 0))]) hx hb dX11_image_25 hl (k := 0) rfl (by decide) (by decide) rfl (fun ls hl => ?_)
                  refine lv_goto (tgt := 7) hx hb dX11_image_28 (by decide) ?_
                  refine lv_iload_n hx hb dX11_image_7 rfl (lv_at hl 0 rfl) ?_
                  refine lv_bipush (v := 81) hx hb dX11_image_8 (by decide) ?_
                  refine lv_icmp_ge (tgt := 31) hx hb dX11_image_10 (by decide) (fun c_522 => ?_) (fun c_522 => ?_)
                  · exact absurd c_522 (by decide)
                  · refine lv_aload_n hx hb dX11_image_13 rfl (lv_at hl 1 rfl) ?_
                    refine q_get C h km0 fl_X11_20 (v := .ref (M 4)) rfl dX11_image_14 ?_
                    refine lv_iload_n hx hb dX11_image_17 rfl (lv_at hl 0 rfl) ?_
                    refine lv_aload_n hx hb dX11_image_18 rfl (lv_at hl 1 rfl) ?_
                    refine q_get C h km0 fl_X11_17 (v := .ref (M 3)) rfl dX11_image_19 ?_
                    refine lv_iload_n hx hb dX11_image_22 rfl (lv_at hl 0 rfl) ?_
                    refine q_iald C h km3 (by unfold vp_in; decide) dX11_image_23 ?_
                    refine lv_topi (fun x_ e_ => ?_)
                    obtain rfl : 0 = x_ := e_.symm
                    refine q_iast C h km4 (by unfold vp_in; decide) dX11_image_24 (fun H locs h => ?_)
                    rw [upd0] at h
                    rw [hu_id km4] at h
                    refine lv_iinc (v := 9) (lv' := [(1, .int 9), (0, .ref (M 0))]) hx hb dX11_image_25 hl (k := 0) rfl (by decide) (by decide) rfl (fun ls hl => ?_)
                    refine lv_goto (tgt := 7) hx hb dX11_image_28 (by decide) ?_
                    refine lv_iload_n hx hb dX11_image_7 rfl (lv_at hl 0 rfl) ?_
                    refine lv_bipush (v := 81) hx hb dX11_image_8 (by decide) ?_
                    refine lv_icmp_ge (tgt := 31) hx hb dX11_image_10 (by decide) (fun c_524 => ?_) (fun c_524 => ?_)
                    · exact absurd c_524 (by decide)
                    · refine lv_aload_n hx hb dX11_image_13 rfl (lv_at hl 1 rfl) ?_
                      refine q_get C h km0 fl_X11_20 (v := .ref (M 4)) rfl dX11_image_14 ?_
                      refine lv_iload_n hx hb dX11_image_17 rfl (lv_at hl 0 rfl) ?_
                      refine lv_aload_n hx hb dX11_image_18 rfl (lv_at hl 1 rfl) ?_
                      refine q_get C h km0 fl_X11_17 (v := .ref (M 3)) rfl dX11_image_19 ?_
                      refine lv_iload_n hx hb dX11_image_22 rfl (lv_at hl 0 rfl) ?_
                      refine q_iald C h km3 (by unfold vp_in; decide) dX11_image_23 ?_
                      refine lv_topi (fun x_ e_ => ?_)
                      obtain rfl : 0 = x_ := e_.symm
                      refine q_iast C h km4 (by unfold vp_in; decide) dX11_image_24 (fun H locs h => ?_)
                      rw [upd0] at h
                      rw [hu_id km4] at h
                      refine lv_iinc (v := 10) (lv' := [(1, .int 10), (0, .ref (M 0))]) hx hb dX11_image_25 hl (k := 0) rfl (by decide) (by decide) rfl (fun ls hl => ?_)
                      refine lv_goto (tgt := 7) hx hb dX11_image_28 (by decide) ?_
                      refine lv_iload_n hx hb dX11_image_7 rfl (lv_at hl 0 rfl) ?_
                      refine lv_bipush (v := 81) hx hb dX11_image_8 (by decide) ?_
                      refine lv_icmp_ge (tgt := 31) hx hb dX11_image_10 (by decide) (fun c_526 => ?_) (fun c_526 => ?_)
                      · exact absurd c_526 (by decide)
                      · refine lv_aload_n hx hb dX11_image_13 rfl (lv_at hl 1 rfl) ?_
                        refine q_get C h km0 fl_X11_20 (v := .ref (M 4)) rfl dX11_image_14 ?_
                        refine lv_iload_n hx hb dX11_image_17 rfl (lv_at hl 0 rfl) ?_
                        refine lv_aload_n hx hb dX11_image_18 rfl (lv_at hl 1 rfl) ?_
                        refine q_get C h km0 fl_X11_17 (v := .ref (M 3)) rfl dX11_image_19 ?_
                        refine lv_iload_n hx hb dX11_image_22 rfl (lv_at hl 0 rfl) ?_
                        refine q_iald C h km3 (by unfold vp_in; decide) dX11_image_23 ?_
                        refine lv_topi (fun x_ e_ => ?_)
                        obtain rfl : 0 = x_ := e_.symm
                        refine q_iast C h km4 (by unfold vp_in; decide) dX11_image_24 (fun H locs h => ?_)
                        rw [upd0] at h
                        rw [hu_id km4] at h
                        refine lv_iinc (v := 11) (lv' := [(1, .int 11), (0, .ref (M 0))]) hx hb dX11_image_25 hl (k := 0) rfl (by decide) (by decide) rfl (fun ls hl => ?_)
                        refine lv_goto (tgt := 7) hx hb dX11_image_28 (by decide) ?_
                        refine lv_iload_n hx hb dX11_image_7 rfl (lv_at hl 0 rfl) ?_
                        refine lv_bipush (v := 81) hx hb dX11_image_8 (by decide) ?_
                        refine lv_icmp_ge (tgt := 31) hx hb dX11_image_10 (by decide) (fun c_528 => ?_) (fun c_528 => ?_)
                        · exact absurd c_528 (by decide)
                        · refine lv_aload_n hx hb dX11_image_13 rfl (lv_at hl 1 rfl) ?_
                          refine q_get C h km0 fl_X11_20 (v := .ref (M 4)) rfl dX11_image_14 ?_
                          refine lv_iload_n hx hb dX11_image_17 rfl (lv_at hl 0 rfl) ?_
                          refine lv_aload_n hx hb dX11_image_18 rfl (lv_at hl 1 rfl) ?_
                          refine q_get C h km0 fl_X11_17 (v := .ref (M 3)) rfl dX11_image_19 ?_
                          refine lv_iload_n hx hb dX11_image_22 rfl (lv_at hl 0 rfl) ?_
                          refine q_iald C h km3 (by unfold vp_in; decide) dX11_image_23 ?_
                          refine lv_topi (fun x_ e_ => ?_)
                          obtain rfl : 0 = x_ := e_.symm
                          refine q_iast C h km4 (by unfold vp_in; decide) dX11_image_24 (fun H locs h => ?_)
                          rw [upd0] at h
                          rw [hu_id km4] at h
                          refine lv_iinc (v := 12) (lv' := [(1, .int 12), (0, .ref (M 0))]) hx hb dX11_image_25 hl (k := 0) rfl (by decide) (by decide) rfl (fun ls hl => ?_)
                          refine lv_goto (tgt := 7) hx hb dX11_image_28 (by decide) ?_
                          refine lv_iload_n hx hb dX11_image_7 rfl (lv_at hl 0 rfl) ?_
                          refine lv_bipush (v := 81) hx hb dX11_image_8 (by decide) ?_
                          refine lv_icmp_ge (tgt := 31) hx hb dX11_image_10 (by decide) (fun c_530 => ?_) (fun c_530 => ?_)
                          · exact absurd c_530 (by decide)
                          · refine lv_aload_n hx hb dX11_image_13 rfl (lv_at hl 1 rfl) ?_
                            refine q_get C h km0 fl_X11_20 (v := .ref (M 4)) rfl dX11_image_14 ?_
                            refine lv_iload_n hx hb dX11_image_17 rfl (lv_at hl 0 rfl) ?_
                            refine lv_aload_n hx hb dX11_image_18 rfl (lv_at hl 1 rfl) ?_
                            refine q_get C h km0 fl_X11_17 (v := .ref (M 3)) rfl dX11_image_19 ?_
                            refine lv_iload_n hx hb dX11_image_22 rfl (lv_at hl 0 rfl) ?_
                            refine q_iald C h km3 (by unfold vp_in; decide) dX11_image_23 ?_
                            refine lv_topi (fun x_ e_ => ?_)
                            obtain rfl : 0 = x_ := e_.symm
                            refine q_iast C h km4 (by unfold vp_in; decide) dX11_image_24 (fun H locs h => ?_)
                            rw [upd0] at h
                            rw [hu_id km4] at h
                            refine lv_iinc (v := 13) (lv' := [(1, .int 13), (0, .ref (M 0))]) hx hb dX11_image_25 hl (k := 0) rfl (by decide) (by decide) rfl (fun ls hl => ?_)
                            refine lv_goto (tgt := 7) hx hb dX11_image_28 (by decide) ?_
                            refine lv_iload_n hx hb dX11_image_7 rfl (lv_at hl 0 rfl) ?_
                            refine lv_bipush (v := 81) hx hb dX11_image_8 (by decide) ?_
                            refine lv_icmp_ge (tgt := 31) hx hb dX11_image_10 (by decide) (fun c_532 => ?_) (fun c_532 => ?_)
                            · exact absurd c_532 (by decide)
                            · refine lv_aload_n hx hb dX11_image_13 rfl (lv_at hl 1 rfl) ?_
                              refine q_get C h km0 fl_X11_20 (v := .ref (M 4)) rfl dX11_image_14 ?_
                              refine lv_iload_n hx hb dX11_image_17 rfl (lv_at hl 0 rfl) ?_
                              refine lv_aload_n hx hb dX11_image_18 rfl (lv_at hl 1 rfl) ?_
                              refine q_get C h km0 fl_X11_17 (v := .ref (M 3)) rfl dX11_image_19 ?_
                              refine lv_iload_n hx hb dX11_image_22 rfl (lv_at hl 0 rfl) ?_
                              refine q_iald C h km3 (by unfold vp_in; decide) dX11_image_23 ?_
                              refine lv_topi (fun x_ e_ => ?_)
                              obtain rfl : 0 = x_ := e_.symm
                              refine q_iast C h km4 (by unfold vp_in; decide) dX11_image_24 (fun H locs h => ?_)
                              rw [upd0] at h
                              rw [hu_id km4] at h
                              refine lv_iinc (v := 14) (lv' := [(1, .int 14), (0, .ref (M 0))]) hx hb dX11_image_25 hl (k := 0) rfl (by decide) (by decide) rfl (fun ls hl => ?_)
                              refine lv_goto (tgt := 7) hx hb dX11_image_28 (by decide) ?_
                              refine lv_iload_n hx hb dX11_image_7 rfl (lv_at hl 0 rfl) ?_
                              refine lv_bipush (v := 81) hx hb dX11_image_8 (by decide) ?_
                              refine lv_icmp_ge (tgt := 31) hx hb dX11_image_10 (by decide) (fun c_534 => ?_) (fun c_534 => ?_)
                              · exact absurd c_534 (by decide)
                              · refine lv_aload_n hx hb dX11_image_13 rfl (lv_at hl 1 rfl) ?_
                                refine q_get C h km0 fl_X11_20 (v := .ref (M 4)) rfl dX11_image_14 ?_
                                refine lv_iload_n hx hb dX11_image_17 rfl (lv_at hl 0 rfl) ?_
                                refine lv_aload_n hx hb dX11_image_18 rfl (lv_at hl 1 rfl) ?_
                                refine q_get C h km0 fl_X11_17 (v := .ref (M 3)) rfl dX11_image_19 ?_
                                refine lv_iload_n hx hb dX11_image_22 rfl (lv_at hl 0 rfl) ?_
                                refine q_iald C h km3 (by unfold vp_in; decide) dX11_image_23 ?_
                                refine lv_topi (fun x_ e_ => ?_)
                                obtain rfl : 0 = x_ := e_.symm
                                refine q_iast C h km4 (by unfold vp_in; decide) dX11_image_24 (fun H locs h => ?_)
                                rw [upd0] at h
                                rw [hu_id km4] at h
                                refine lv_iinc (v := 15) (lv' := [(1, .int 15), (0, .ref (M 0))]) hx hb dX11_image_25 hl (k := 0) rfl (by decide) (by decide) rfl (fun ls hl => ?_)
                                refine lv_goto (tgt := 7) hx hb dX11_image_28 (by decide) ?_
                                refine lv_iload_n hx hb dX11_image_7 rfl (lv_at hl 0 rfl) ?_
                                refine lv_bipush (v := 81) hx hb dX11_image_8 (by decide) ?_
                                refine lv_icmp_ge (tgt := 31) hx hb dX11_image_10 (by decide) (fun c_536 => ?_) (fun c_536 => ?_)
                                · exact absurd c_536 (by decide)
                                · refine lv_aload_n hx hb dX11_image_13 rfl (lv_at hl 1 rfl) ?_
                                  refine q_get C h km0 fl_X11_20 (v := .ref (M 4)) rfl dX11_image_14 ?_
                                  refine lv_iload_n hx hb dX11_image_17 rfl (lv_at hl 0 rfl) ?_
                                  refine lv_aload_n hx hb dX11_image_18 rfl (lv_at hl 1 rfl) ?_
                                  refine q_get C h km0 fl_X11_17 (v := .ref (M 3)) rfl dX11_image_19 ?_
                                  refine lv_iload_n hx hb dX11_image_22 rfl (lv_at hl 0 rfl) ?_
                                  refine q_iald C h km3 (by unfold vp_in; decide) dX11_image_23 ?_
                                  refine lv_topi (fun x_ e_ => ?_)
                                  obtain rfl : 0 = x_ := e_.symm
                                  refine q_iast C h km4 (by unfold vp_in; decide) dX11_image_24 (fun H locs h => ?_)
                                  rw [upd0] at h
                                  rw [hu_id km4] at h
                                  refine lv_iinc (v := 16) (lv' := [(1, .int 16), (0, .ref (M 0))]) hx hb dX11_image_25 hl (k := 0) rfl (by decide) (by decide) rfl (fun ls hl => ?_)
                                  refine lv_goto (tgt := 7) hx hb dX11_image_28 (by decide) ?_
                                  refine lv_iload_n hx hb dX11_image_7 rfl (lv_at hl 0 rfl) ?_
                                  refine lv_bipush (v := 81) hx hb dX11_image_8 (by decide) ?_
                                  refine lv_icmp_ge (tgt := 31) hx hb dX11_image_10 (by decide) (fun c_538 => ?_) (fun c_538 => ?_)
                                  · exact absurd c_538 (by decide)
                                  · refine lv_aload_n hx hb dX11_image_13 rfl (lv_at hl 1 rfl) ?_
                                    refine q_get C h km0 fl_X11_20 (v := .ref (M 4)) rfl dX11_image_14 ?_
                                    refine lv_iload_n hx hb dX11_image_17 rfl (lv_at hl 0 rfl) ?_
                                    refine lv_aload_n hx hb dX11_image_18 rfl (lv_at hl 1 rfl) ?_
                                    refine q_get C h km0 fl_X11_17 (v := .ref (M 3)) rfl dX11_image_19 ?_
                                    refine lv_iload_n hx hb dX11_image_22 rfl (lv_at hl 0 rfl) ?_
                                    refine q_iald C h km3 (by unfold vp_in; decide) dX11_image_23 ?_
                                    refine lv_topi (fun x_ e_ => ?_)
                                    obtain rfl : 0 = x_ := e_.symm
                                    refine q_iast C h km4 (by unfold vp_in; decide) dX11_image_24 (fun H locs h => ?_)
                                    rw [upd0] at h
                                    rw [hu_id km4] at h
                                    refine lv_iinc (v := 17) (lv' := [(1, .int 17), (0, .ref (M 0))]) hx hb dX11_image_25 hl (k := 0) rfl (by decide) (by decide) rfl (fun ls hl => ?_)
                                    refine lv_goto (tgt := 7) hx hb dX11_image_28 (by decide) ?_
                                    refine lv_iload_n hx hb dX11_image_7 rfl (lv_at hl 0 rfl) ?_
                                    refine lv_bipush (v := 81) hx hb dX11_image_8 (by decide) ?_
                                    refine lv_icmp_ge (tgt := 31) hx hb dX11_image_10 (by decide) (fun c_540 => ?_) (fun c_540 => ?_)
                                    · exact absurd c_540 (by decide)
                                    · refine lv_aload_n hx hb dX11_image_13 rfl (lv_at hl 1 rfl) ?_
                                      refine q_get C h km0 fl_X11_20 (v := .ref (M 4)) rfl dX11_image_14 ?_
                                      refine lv_iload_n hx hb dX11_image_17 rfl (lv_at hl 0 rfl) ?_
                                      refine lv_aload_n hx hb dX11_image_18 rfl (lv_at hl 1 rfl) ?_
                                      refine q_get C h km0 fl_X11_17 (v := .ref (M 3)) rfl dX11_image_19 ?_
                                      refine lv_iload_n hx hb dX11_image_22 rfl (lv_at hl 0 rfl) ?_
                                      refine q_iald C h km3 (by unfold vp_in; decide) dX11_image_23 ?_
                                      refine lv_topi (fun x_ e_ => ?_)
                                      obtain rfl : 0 = x_ := e_.symm
                                      refine q_iast C h km4 (by unfold vp_in; decide) dX11_image_24 (fun H locs h => ?_)
                                      rw [upd0] at h
                                      rw [hu_id km4] at h
                                      refine lv_iinc (v := 18) (lv' := [(1, .int 18), (0, .ref (M 0))]) hx hb dX11_image_25 hl (k := 0) rfl (by decide) (by decide) rfl (fun ls hl => ?_)
                                      refine lv_goto (tgt := 7) hx hb dX11_image_28 (by decide) ?_
                                      refine lv_iload_n hx hb dX11_image_7 rfl (lv_at hl 0 rfl) ?_
                                      refine lv_bipush (v := 81) hx hb dX11_image_8 (by decide) ?_
                                      refine lv_icmp_ge (tgt := 31) hx hb dX11_image_10 (by decide) (fun c_542 => ?_) (fun c_542 => ?_)
                                      · exact absurd c_542 (by decide)
                                      · refine lv_aload_n hx hb dX11_image_13 rfl (lv_at hl 1 rfl) ?_
                                        refine q_get C h km0 fl_X11_20 (v := .ref (M 4)) rfl dX11_image_14 ?_
                                        refine lv_iload_n hx hb dX11_image_17 rfl (lv_at hl 0 rfl) ?_
                                        refine lv_aload_n hx hb dX11_image_18 rfl (lv_at hl 1 rfl) ?_
                                        refine q_get C h km0 fl_X11_17 (v := .ref (M 3)) rfl dX11_image_19 ?_
                                        refine lv_iload_n hx hb dX11_image_22 rfl (lv_at hl 0 rfl) ?_
                                        refine q_iald C h km3 (by unfold vp_in; decide) dX11_image_23 ?_
                                        refine lv_topi (fun x_ e_ => ?_)
                                        obtain rfl : 0 = x_ := e_.symm
                                        refine q_iast C h km4 (by unfold vp_in; decide) dX11_image_24 (fun H locs h => ?_)
                                        rw [upd0] at h
                                        rw [hu_id km4] at h
                                        refine lv_iinc (v := 19) (lv' := [(1, .int 19), (0, .ref (M 0))]) hx hb dX11_image_25 hl (k := 0) rfl (by decide) (by decide) rfl (fun ls hl => ?_)
                                        refine lv_goto (tgt := 7) hx hb dX11_image_28 (by decide) ?_
                                        refine lv_iload_n hx hb dX11_image_7 rfl (lv_at hl 0 rfl) ?_
                                        refine lv_bipush (v := 81) hx hb dX11_image_8 (by decide) ?_
                                        refine lv_icmp_ge (tgt := 31) hx hb dX11_image_10 (by decide) (fun c_544 => ?_) (fun c_544 => ?_)
                                        · exact absurd c_544 (by decide)
                                        · refine lv_aload_n hx hb dX11_image_13 rfl (lv_at hl 1 rfl) ?_
                                          refine q_get C h km0 fl_X11_20 (v := .ref (M 4)) rfl dX11_image_14 ?_
                                          refine lv_iload_n hx hb dX11_image_17 rfl (lv_at hl 0 rfl) ?_
                                          refine lv_aload_n hx hb dX11_image_18 rfl (lv_at hl 1 rfl) ?_
                                          refine q_get C h km0 fl_X11_17 (v := .ref (M 3)) rfl dX11_image_19 ?_
                                          refine lv_iload_n hx hb dX11_image_22 rfl (lv_at hl 0 rfl) ?_
                                          refine q_iald C h km3 (by unfold vp_in; decide) dX11_image_23 ?_
                                          refine lv_topi (fun x_ e_ => ?_)
                                          obtain rfl : 0 = x_ := e_.symm
                                          refine q_iast C h km4 (by unfold vp_in; decide) dX11_image_24 (fun H locs h => ?_)
                                          rw [upd0] at h
                                          rw [hu_id km4] at h
                                          refine lv_iinc (v := 20) (lv' := [(1, .int 20), (0, .ref (M 0))]) hx hb dX11_image_25 hl (k := 0) rfl (by decide) (by decide) rfl (fun ls hl => ?_)
                                          refine lv_goto (tgt := 7) hx hb dX11_image_28 (by decide) ?_
                                          refine lv_iload_n hx hb dX11_image_7 rfl (lv_at hl 0 rfl) ?_
                                          refine lv_bipush (v := 81) hx hb dX11_image_8 (by decide) ?_
                                          refine lv_icmp_ge (tgt := 31) hx hb dX11_image_10 (by decide) (fun c_546 => ?_) (fun c_546 => ?_)
                                          · exact absurd c_546 (by decide)
                                          · refine lv_aload_n hx hb dX11_image_13 rfl (lv_at hl 1 rfl) ?_
                                            refine q_get C h km0 fl_X11_20 (v := .ref (M 4)) rfl dX11_image_14 ?_
                                            refine lv_iload_n hx hb dX11_image_17 rfl (lv_at hl 0 rfl) ?_
                                            refine lv_aload_n hx hb dX11_image_18 rfl (lv_at hl 1 rfl) ?_
                                            refine q_get C h km0 fl_X11_17 (v := .ref (M 3)) rfl dX11_image_19 ?_
                                            refine lv_iload_n hx hb dX11_image_22 rfl (lv_at hl 0 rfl) ?_
                                            refine q_iald C h km3 (by unfold vp_in; decide) dX11_image_23 ?_
                                            refine lv_topi (fun x_ e_ => ?_)
                                            obtain rfl : 0 = x_ := e_.symm
                                            refine q_iast C h km4 (by unfold vp_in; decide) dX11_image_24 (fun H locs h => ?_)
                                            rw [upd0] at h
                                            rw [hu_id km4] at h
                                            refine lv_iinc (v := 21) (lv' := [(1, .int 21), (0, .ref (M 0))]) hx hb dX11_image_25 hl (k := 0) rfl (by decide) (by decide) rfl (fun ls hl => ?_)
                                            refine lv_goto (tgt := 7) hx hb dX11_image_28 (by decide) ?_
                                            refine lv_iload_n hx hb dX11_image_7 rfl (lv_at hl 0 rfl) ?_
                                            refine lv_bipush (v := 81) hx hb dX11_image_8 (by decide) ?_
                                            refine lv_icmp_ge (tgt := 31) hx hb dX11_image_10 (by decide) (fun c_548 => ?_) (fun c_548 => ?_)
                                            · exact absurd c_548 (by decide)
                                            · refine lv_aload_n hx hb dX11_image_13 rfl (lv_at hl 1 rfl) ?_
                                              refine q_get C h km0 fl_X11_20 (v := .ref (M 4)) rfl dX11_image_14 ?_
                                              refine lv_iload_n hx hb dX11_image_17 rfl (lv_at hl 0 rfl) ?_
                                              refine lv_aload_n hx hb dX11_image_18 rfl (lv_at hl 1 rfl) ?_
                                              refine q_get C h km0 fl_X11_17 (v := .ref (M 3)) rfl dX11_image_19 ?_
                                              refine lv_iload_n hx hb dX11_image_22 rfl (lv_at hl 0 rfl) ?_
                                              refine q_iald C h km3 (by unfold vp_in; decide) dX11_image_23 ?_
                                              refine lv_topi (fun x_ e_ => ?_)
                                              obtain rfl : 0 = x_ := e_.symm
                                              refine q_iast C h km4 (by unfold vp_in; decide) dX11_image_24 (fun H locs h => ?_)
                                              rw [upd0] at h
                                              rw [hu_id km4] at h
                                              refine lv_iinc (v := 22) (lv' := [(1, .int 22), (0, .ref (M 0))]) hx hb dX11_image_25 hl (k := 0) rfl (by decide) (by decide) rfl (fun ls hl => ?_)
                                              refine lv_goto (tgt := 7) hx hb dX11_image_28 (by decide) ?_
                                              refine lv_iload_n hx hb dX11_image_7 rfl (lv_at hl 0 rfl) ?_
                                              refine lv_bipush (v := 81) hx hb dX11_image_8 (by decide) ?_
                                              refine lv_icmp_ge (tgt := 31) hx hb dX11_image_10 (by decide) (fun c_550 => ?_) (fun c_550 => ?_)
                                              · exact absurd c_550 (by decide)
                                              · refine lv_aload_n hx hb dX11_image_13 rfl (lv_at hl 1 rfl) ?_
                                                refine q_get C h km0 fl_X11_20 (v := .ref (M 4)) rfl dX11_image_14 ?_
                                                refine lv_iload_n hx hb dX11_image_17 rfl (lv_at hl 0 rfl) ?_
                                                refine lv_aload_n hx hb dX11_image_18 rfl (lv_at hl 1 rfl) ?_
                                                refine q_get C h km0 fl_X11_17 (v := .ref (M 3)) rfl dX11_image_19 ?_
                                                refine lv_iload_n hx hb dX11_image_22 rfl (lv_at hl 0 rfl) ?_
                                                refine q_iald C h km3 (by unfold vp_in; decide) dX11_image_23 ?_
                                                refine lv_topi (fun x_ e_ => ?_)
                                                obtain rfl : 0 = x_ := e_.symm
                                                refine q_iast C h km4 (by unfold vp_in; decide) dX11_image_24 (fun H locs h => ?_)
                                                rw [upd0] at h
                                                rw [hu_id km4] at h
                                                refine lv_iinc (v := 23) (lv' := [(1, .int 23), (0, .ref (M 0))]) hx hb dX11_image_25 hl (k := 0) rfl (by decide) (by decide) rfl (fun ls hl => ?_)
                                                refine lv_goto (tgt := 7) hx hb dX11_image_28 (by decide) ?_
                                                refine lv_iload_n hx hb dX11_image_7 rfl (lv_at hl 0 rfl) ?_
                                                refine lv_bipush (v := 81) hx hb dX11_image_8 (by decide) ?_
                                                refine lv_icmp_ge (tgt := 31) hx hb dX11_image_10 (by decide) (fun c_552 => ?_) (fun c_552 => ?_)
                                                · exact absurd c_552 (by decide)
                                                · refine lv_aload_n hx hb dX11_image_13 rfl (lv_at hl 1 rfl) ?_
                                                  refine q_get C h km0 fl_X11_20 (v := .ref (M 4)) rfl dX11_image_14 ?_
                                                  refine lv_iload_n hx hb dX11_image_17 rfl (lv_at hl 0 rfl) ?_
                                                  refine lv_aload_n hx hb dX11_image_18 rfl (lv_at hl 1 rfl) ?_
                                                  refine q_get C h km0 fl_X11_17 (v := .ref (M 3)) rfl dX11_image_19 ?_
                                                  refine lv_iload_n hx hb dX11_image_22 rfl (lv_at hl 0 rfl) ?_
                                                  refine q_iald C h km3 (by unfold vp_in; decide) dX11_image_23 ?_
                                                  refine lv_topi (fun x_ e_ => ?_)
                                                  obtain rfl : 0 = x_ := e_.symm
                                                  refine q_iast C h km4 (by unfold vp_in; decide) dX11_image_24 (fun H locs h => ?_)
                                                  rw [upd0] at h
                                                  rw [hu_id km4] at h
                                                  refine lv_iinc (v := 24) (lv' := [(1, .int 24), (0, .ref (M 0))]) hx hb dX11_image_25 hl (k := 0) rfl (by decide) (by decide) rfl (fun ls hl => ?_)
                                                  refine lv_goto (tgt := 7) hx hb dX11_image_28 (by decide) ?_
                                                  refine lv_iload_n hx hb dX11_image_7 rfl (lv_at hl 0 rfl) ?_
                                                  refine lv_bipush (v := 81) hx hb dX11_image_8 (by decide) ?_
                                                  refine lv_icmp_ge (tgt := 31) hx hb dX11_image_10 (by decide) (fun c_554 => ?_) (fun c_554 => ?_)
                                                  · exact absurd c_554 (by decide)
                                                  · refine lv_aload_n hx hb dX11_image_13 rfl (lv_at hl 1 rfl) ?_
                                                    refine q_get C h km0 fl_X11_20 (v := .ref (M 4)) rfl dX11_image_14 ?_
                                                    refine lv_iload_n hx hb dX11_image_17 rfl (lv_at hl 0 rfl) ?_
                                                    refine lv_aload_n hx hb dX11_image_18 rfl (lv_at hl 1 rfl) ?_
                                                    refine q_get C h km0 fl_X11_17 (v := .ref (M 3)) rfl dX11_image_19 ?_
                                                    refine lv_iload_n hx hb dX11_image_22 rfl (lv_at hl 0 rfl) ?_
                                                    refine q_iald C h km3 (by unfold vp_in; decide) dX11_image_23 ?_
                                                    refine lv_topi (fun x_ e_ => ?_)
                                                    obtain rfl : 0 = x_ := e_.symm
                                                    refine q_iast C h km4 (by unfold vp_in; decide) dX11_image_24 (fun H locs h => ?_)
                                                    rw [upd0] at h
                                                    rw [hu_id km4] at h
                                                    refine lv_iinc (v := 25) (lv' := [(1, .int 25), (0, .ref (M 0))]) hx hb dX11_image_25 hl (k := 0) rfl (by decide) (by decide) rfl (fun ls hl => ?_)
                                                    refine lv_goto (tgt := 7) hx hb dX11_image_28 (by decide) ?_
                                                    refine lv_iload_n hx hb dX11_image_7 rfl (lv_at hl 0 rfl) ?_
                                                    refine lv_bipush (v := 81) hx hb dX11_image_8 (by decide) ?_
                                                    refine lv_icmp_ge (tgt := 31) hx hb dX11_image_10 (by decide) (fun c_556 => ?_) (fun c_556 => ?_)
                                                    · exact absurd c_556 (by decide)
                                                    · refine lv_aload_n hx hb dX11_image_13 rfl (lv_at hl 1 rfl) ?_
                                                      refine q_get C h km0 fl_X11_20 (v := .ref (M 4)) rfl dX11_image_14 ?_
                                                      refine lv_iload_n hx hb dX11_image_17 rfl (lv_at hl 0 rfl) ?_
                                                      refine lv_aload_n hx hb dX11_image_18 rfl (lv_at hl 1 rfl) ?_
                                                      refine q_get C h km0 fl_X11_17 (v := .ref (M 3)) rfl dX11_image_19 ?_
                                                      refine lv_iload_n hx hb dX11_image_22 rfl (lv_at hl 0 rfl) ?_
                                                      refine q_iald C h km3 (by unfold vp_in; decide) dX11_image_23 ?_
                                                      refine lv_topi (fun x_ e_ => ?_)
                                                      obtain rfl : 0 = x_ := e_.symm
                                                      refine q_iast C h km4 (by unfold vp_in; decide) dX11_image_24 (fun H locs h => ?_)
                                                      rw [upd0] at h
                                                      rw [hu_id km4] at h
                                                      refine lv_iinc (v := 26) (lv' := [(1, .int 26), (0, .ref (M 0))]) hx hb dX11_image_25 hl (k := 0) rfl (by decide) (by decide) rfl (fun ls hl => ?_)
                                                      refine lv_goto (tgt := 7) hx hb dX11_image_28 (by decide) ?_
                                                      refine lv_iload_n hx hb dX11_image_7 rfl (lv_at hl 0 rfl) ?_
                                                      refine lv_bipush (v := 81) hx hb dX11_image_8 (by decide) ?_
                                                      refine lv_icmp_ge (tgt := 31) hx hb dX11_image_10 (by decide) (fun c_558 => ?_) (fun c_558 => ?_)
                                                      · exact absurd c_558 (by decide)
                                                      · refine lv_aload_n hx hb dX11_image_13 rfl (lv_at hl 1 rfl) ?_
                                                        refine q_get C h km0 fl_X11_20 (v := .ref (M 4)) rfl dX11_image_14 ?_
                                                        refine lv_iload_n hx hb dX11_image_17 rfl (lv_at hl 0 rfl) ?_
                                                        refine lv_aload_n hx hb dX11_image_18 rfl (lv_at hl 1 rfl) ?_
                                                        refine q_get C h km0 fl_X11_17 (v := .ref (M 3)) rfl dX11_image_19 ?_
                                                        refine lv_iload_n hx hb dX11_image_22 rfl (lv_at hl 0 rfl) ?_
                                                        refine q_iald C h km3 (by unfold vp_in; decide) dX11_image_23 ?_
                                                        refine lv_topi (fun x_ e_ => ?_)
                                                        obtain rfl : 0 = x_ := e_.symm
                                                        refine q_iast C h km4 (by unfold vp_in; decide) dX11_image_24 (fun H locs h => ?_)
                                                        rw [upd0] at h
                                                        rw [hu_id km4] at h
                                                        refine lv_iinc (v := 27) (lv' := [(1, .int 27), (0, .ref (M 0))]) hx hb dX11_image_25 hl (k := 0) rfl (by decide) (by decide) rfl (fun ls hl => ?_)
                                                        refine lv_goto (tgt := 7) hx hb dX11_image_28 (by decide) ?_
                                                        refine lv_iload_n hx hb dX11_image_7 rfl (lv_at hl 0 rfl) ?_
                                                        refine lv_bipush (v := 81) hx hb dX11_image_8 (by decide) ?_
                                                        refine lv_icmp_ge (tgt := 31) hx hb dX11_image_10 (by decide) (fun c_560 => ?_) (fun c_560 => ?_)
                                                        · exact absurd c_560 (by decide)
                                                        · refine lv_aload_n hx hb dX11_image_13 rfl (lv_at hl 1 rfl) ?_
                                                          refine q_get C h km0 fl_X11_20 (v := .ref (M 4)) rfl dX11_image_14 ?_
                                                          refine lv_iload_n hx hb dX11_image_17 rfl (lv_at hl 0 rfl) ?_
                                                          refine lv_aload_n hx hb dX11_image_18 rfl (lv_at hl 1 rfl) ?_
                                                          refine q_get C h km0 fl_X11_17 (v := .ref (M 3)) rfl dX11_image_19 ?_
                                                          refine lv_iload_n hx hb dX11_image_22 rfl (lv_at hl 0 rfl) ?_
                                                          refine q_iald C h km3 (by unfold vp_in; decide) dX11_image_23 ?_
                                                          refine lv_topi (fun x_ e_ => ?_)
                                                          obtain rfl : 0 = x_ := e_.symm
                                                          refine q_iast C h km4 (by unfold vp_in; decide) dX11_image_24 (fun H locs h => ?_)
                                                          rw [upd0] at h
                                                          rw [hu_id km4] at h
                                                          refine lv_iinc (v := 28) (lv' := [(1, .int 28), (0, .ref (M 0))]) hx hb dX11_image_25 hl (k := 0) rfl (by decide) (by decide) rfl (fun ls hl => ?_)
                                                          refine lv_goto (tgt := 7) hx hb dX11_image_28 (by decide) ?_
                                                          refine lv_iload_n hx hb dX11_image_7 rfl (lv_at hl 0 rfl) ?_
                                                          refine lv_bipush (v := 81) hx hb dX11_image_8 (by decide) ?_
                                                          refine lv_icmp_ge (tgt := 31) hx hb dX11_image_10 (by decide) (fun c_562 => ?_) (fun c_562 => ?_)
                                                          · exact absurd c_562 (by decide)
                                                          · refine lv_aload_n hx hb dX11_image_13 rfl (lv_at hl 1 rfl) ?_
                                                            refine q_get C h km0 fl_X11_20 (v := .ref (M 4)) rfl dX11_image_14 ?_
                                                            refine lv_iload_n hx hb dX11_image_17 rfl (lv_at hl 0 rfl) ?_
                                                            refine lv_aload_n hx hb dX11_image_18 rfl (lv_at hl 1 rfl) ?_
                                                            refine q_get C h km0 fl_X11_17 (v := .ref (M 3)) rfl dX11_image_19 ?_
                                                            refine lv_iload_n hx hb dX11_image_22 rfl (lv_at hl 0 rfl) ?_
                                                            refine q_iald C h km3 (by unfold vp_in; decide) dX11_image_23 ?_
                                                            refine lv_topi (fun x_ e_ => ?_)
                                                            obtain rfl : 0 = x_ := e_.symm
                                                            refine q_iast C h km4 (by unfold vp_in; decide) dX11_image_24 (fun H locs h => ?_)
                                                            rw [upd0] at h
                                                            rw [hu_id km4] at h
                                                            refine lv_iinc (v := 29) (lv' := [(1, .int 29), (0, .ref (M 0))]) hx hb dX11_image_25 hl (k := 0) rfl (by decide) (by decide) rfl (fun ls hl => ?_)
                                                            refine lv_goto (tgt := 7) hx hb dX11_image_28 (by decide) ?_
                                                            refine lv_iload_n hx hb dX11_image_7 rfl (lv_at hl 0 rfl) ?_
                                                            refine lv_bipush (v := 81) hx hb dX11_image_8 (by decide) ?_
                                                            refine lv_icmp_ge (tgt := 31) hx hb dX11_image_10 (by decide) (fun c_564 => ?_) (fun c_564 => ?_)
                                                            · exact absurd c_564 (by decide)
                                                            · refine lv_aload_n hx hb dX11_image_13 rfl (lv_at hl 1 rfl) ?_
                                                              refine q_get C h km0 fl_X11_20 (v := .ref (M 4)) rfl dX11_image_14 ?_
                                                              refine lv_iload_n hx hb dX11_image_17 rfl (lv_at hl 0 rfl) ?_
                                                              refine lv_aload_n hx hb dX11_image_18 rfl (lv_at hl 1 rfl) ?_
                                                              refine q_get C h km0 fl_X11_17 (v := .ref (M 3)) rfl dX11_image_19 ?_
                                                              refine lv_iload_n hx hb dX11_image_22 rfl (lv_at hl 0 rfl) ?_
                                                              refine q_iald C h km3 (by unfold vp_in; decide) dX11_image_23 ?_
                                                              refine lv_topi (fun x_ e_ => ?_)
                                                              obtain rfl : 0 = x_ := e_.symm
                                                              refine q_iast C h km4 (by unfold vp_in; decide) dX11_image_24 (fun H locs h => ?_)
                                                              rw [upd0] at h
                                                              rw [hu_id km4] at h
                                                              refine lv_iinc (v := 30) (lv' := [(1, .int 30), (0, .ref (M 0))]) hx hb dX11_image_25 hl (k := 0) rfl (by decide) (by decide) rfl (fun ls hl => ?_)
                                                              refine lv_goto (tgt := 7) hx hb dX11_image_28 (by decide) ?_
                                                              refine lv_iload_n hx hb dX11_image_7 rfl (lv_at hl 0 rfl) ?_
                                                              refine lv_bipush (v := 81) hx hb dX11_image_8 (by decide) ?_
                                                              refine lv_icmp_ge (tgt := 31) hx hb dX11_image_10 (by decide) (fun c_566 => ?_) (fun c_566 => ?_)
                                                              · exact absurd c_566 (by decide)
                                                              · refine lv_aload_n hx hb dX11_image_13 rfl (lv_at hl 1 rfl) ?_
                                                                refine q_get C h km0 fl_X11_20 (v := .ref (M 4)) rfl dX11_image_14 ?_
                                                                refine lv_iload_n hx hb dX11_image_17 rfl (lv_at hl 0 rfl) ?_
                                                                refine lv_aload_n hx hb dX11_image_18 rfl (lv_at hl 1 rfl) ?_
                                                                refine q_get C h km0 fl_X11_17 (v := .ref (M 3)) rfl dX11_image_19 ?_
                                                                refine lv_iload_n hx hb dX11_image_22 rfl (lv_at hl 0 rfl) ?_
                                                                refine q_iald C h km3 (by unfold vp_in; decide) dX11_image_23 ?_
                                                                refine lv_topi (fun x_ e_ => ?_)
                                                                obtain rfl : 0 = x_ := e_.symm
                                                                refine q_iast C h km4 (by unfold vp_in; decide) dX11_image_24 (fun H locs h => ?_)
                                                                rw [upd0] at h
                                                                rw [hu_id km4] at h
                                                                refine lv_iinc (v := 31) (lv' := [(1, .int 31), (0, .ref (M 0))]) hx hb dX11_image_25 hl (k := 0) rfl (by decide) (by decide) rfl (fun ls hl => ?_)
                                                                refine lv_goto (tgt := 7) hx hb dX11_image_28 (by decide) ?_
                                                                refine lv_iload_n hx hb dX11_image_7 rfl (lv_at hl 0 rfl) ?_
                                                                refine lv_bipush (v := 81) hx hb dX11_image_8 (by decide) ?_
                                                                refine lv_icmp_ge (tgt := 31) hx hb dX11_image_10 (by decide) (fun c_568 => ?_) (fun c_568 => ?_)
                                                                · exact absurd c_568 (by decide)
                                                                · refine lv_aload_n hx hb dX11_image_13 rfl (lv_at hl 1 rfl) ?_
                                                                  refine q_get C h km0 fl_X11_20 (v := .ref (M 4)) rfl dX11_image_14 ?_
                                                                  refine lv_iload_n hx hb dX11_image_17 rfl (lv_at hl 0 rfl) ?_
                                                                  refine lv_aload_n hx hb dX11_image_18 rfl (lv_at hl 1 rfl) ?_
                                                                  refine q_get C h km0 fl_X11_17 (v := .ref (M 3)) rfl dX11_image_19 ?_
                                                                  refine lv_iload_n hx hb dX11_image_22 rfl (lv_at hl 0 rfl) ?_
                                                                  refine q_iald C h km3 (by unfold vp_in; decide) dX11_image_23 ?_
                                                                  refine lv_topi (fun x_ e_ => ?_)
                                                                  obtain rfl : 0 = x_ := e_.symm
                                                                  refine q_iast C h km4 (by unfold vp_in; decide) dX11_image_24 (fun H locs h => ?_)
                                                                  rw [upd0] at h
                                                                  rw [hu_id km4] at h
                                                                  refine lv_iinc (v := 32) (lv' := [(1, .int 32), (0, .ref (M 0))]) hx hb dX11_image_25 hl (k := 0) rfl (by decide) (by decide) rfl (fun ls hl => ?_)
                                                                  refine lv_goto (tgt := 7) hx hb dX11_image_28 (by decide) ?_
                                                                  refine lv_iload_n hx hb dX11_image_7 rfl (lv_at hl 0 rfl) ?_
                                                                  refine lv_bipush (v := 81) hx hb dX11_image_8 (by decide) ?_
                                                                  refine lv_icmp_ge (tgt := 31) hx hb dX11_image_10 (by decide) (fun c_570 => ?_) (fun c_570 => ?_)
                                                                  · exact absurd c_570 (by decide)
                                                                  · refine lv_aload_n hx hb dX11_image_13 rfl (lv_at hl 1 rfl) ?_
                                                                    refine q_get C h km0 fl_X11_20 (v := .ref (M 4)) rfl dX11_image_14 ?_
                                                                    refine lv_iload_n hx hb dX11_image_17 rfl (lv_at hl 0 rfl) ?_
                                                                    refine lv_aload_n hx hb dX11_image_18 rfl (lv_at hl 1 rfl) ?_
                                                                    refine q_get C h km0 fl_X11_17 (v := .ref (M 3)) rfl dX11_image_19 ?_
                                                                    refine lv_iload_n hx hb dX11_image_22 rfl (lv_at hl 0 rfl) ?_
                                                                    refine q_iald C h km3 (by unfold vp_in; decide) dX11_image_23 ?_
                                                                    refine lv_topi (fun x_ e_ => ?_)
                                                                    obtain rfl : 0 = x_ := e_.symm
                                                                    refine q_iast C h km4 (by unfold vp_in; decide) dX11_image_24 (fun H locs h => ?_)
                                                                    rw [upd0] at h
                                                                    rw [hu_id km4] at h
                                                                    refine lv_iinc (v := 33) (lv' := [(1, .int 33), (0, .ref (M 0))]) hx hb dX11_image_25 hl (k := 0) rfl (by decide) (by decide) rfl (fun ls hl => ?_)
                                                                    refine lv_goto (tgt := 7) hx hb dX11_image_28 (by decide) ?_
                                                                    refine lv_iload_n hx hb dX11_image_7 rfl (lv_at hl 0 rfl) ?_
                                                                    refine lv_bipush (v := 81) hx hb dX11_image_8 (by decide) ?_
                                                                    refine lv_icmp_ge (tgt := 31) hx hb dX11_image_10 (by decide) (fun c_572 => ?_) (fun c_572 => ?_)
                                                                    · exact absurd c_572 (by decide)
                                                                    · refine lv_aload_n hx hb dX11_image_13 rfl (lv_at hl 1 rfl) ?_
                                                                      refine q_get C h km0 fl_X11_20 (v := .ref (M 4)) rfl dX11_image_14 ?_
                                                                      refine lv_iload_n hx hb dX11_image_17 rfl (lv_at hl 0 rfl) ?_
                                                                      refine lv_aload_n hx hb dX11_image_18 rfl (lv_at hl 1 rfl) ?_
                                                                      refine q_get C h km0 fl_X11_17 (v := .ref (M 3)) rfl dX11_image_19 ?_
                                                                      refine lv_iload_n hx hb dX11_image_22 rfl (lv_at hl 0 rfl) ?_
                                                                      refine q_iald C h km3 (by unfold vp_in; decide) dX11_image_23 ?_
                                                                      refine lv_topi (fun x_ e_ => ?_)
                                                                      obtain rfl : 0 = x_ := e_.symm
                                                                      refine q_iast C h km4 (by unfold vp_in; decide) dX11_image_24 (fun H locs h => ?_)
                                                                      rw [upd0] at h
                                                                      rw [hu_id km4] at h
                                                                      refine lv_iinc (v := 34) (lv' := [(1, .int 34), (0, .ref (M 0))]) hx hb dX11_image_25 hl (k := 0) rfl (by decide) (by decide) rfl (fun ls hl => ?_)
                                                                      refine lv_goto (tgt := 7) hx hb dX11_image_28 (by decide) ?_
                                                                      refine lv_iload_n hx hb dX11_image_7 rfl (lv_at hl 0 rfl) ?_
                                                                      refine lv_bipush (v := 81) hx hb dX11_image_8 (by decide) ?_
                                                                      refine lv_icmp_ge (tgt := 31) hx hb dX11_image_10 (by decide) (fun c_574 => ?_) (fun c_574 => ?_)
                                                                      · exact absurd c_574 (by decide)
                                                                      · refine lv_aload_n hx hb dX11_image_13 rfl (lv_at hl 1 rfl) ?_
                                                                        refine q_get C h km0 fl_X11_20 (v := .ref (M 4)) rfl dX11_image_14 ?_
                                                                        refine lv_iload_n hx hb dX11_image_17 rfl (lv_at hl 0 rfl) ?_
                                                                        refine lv_aload_n hx hb dX11_image_18 rfl (lv_at hl 1 rfl) ?_
                                                                        refine q_get C h km0 fl_X11_17 (v := .ref (M 3)) rfl dX11_image_19 ?_
                                                                        refine lv_iload_n hx hb dX11_image_22 rfl (lv_at hl 0 rfl) ?_
                                                                        refine q_iald C h km3 (by unfold vp_in; decide) dX11_image_23 ?_
                                                                        refine lv_topi (fun x_ e_ => ?_)
                                                                        obtain rfl : 0 = x_ := e_.symm
                                                                        refine q_iast C h km4 (by unfold vp_in; decide) dX11_image_24 (fun H locs h => ?_)
                                                                        rw [upd0] at h
                                                                        rw [hu_id km4] at h
                                                                        refine lv_iinc (v := 35) (lv' := [(1, .int 35), (0, .ref (M 0))]) hx hb dX11_image_25 hl (k := 0) rfl (by decide) (by decide) rfl (fun ls hl => ?_)
                                                                        refine lv_goto (tgt := 7) hx hb dX11_image_28 (by decide) ?_
                                                                        refine lv_iload_n hx hb dX11_image_7 rfl (lv_at hl 0 rfl) ?_
                                                                        refine lv_bipush (v := 81) hx hb dX11_image_8 (by decide) ?_
                                                                        refine lv_icmp_ge (tgt := 31) hx hb dX11_image_10 (by decide) (fun c_576 => ?_) (fun c_576 => ?_)
                                                                        · exact absurd c_576 (by decide)
                                                                        · refine lv_aload_n hx hb dX11_image_13 rfl (lv_at hl 1 rfl) ?_
                                                                          refine q_get C h km0 fl_X11_20 (v := .ref (M 4)) rfl dX11_image_14 ?_
                                                                          refine lv_iload_n hx hb dX11_image_17 rfl (lv_at hl 0 rfl) ?_
                                                                          refine lv_aload_n hx hb dX11_image_18 rfl (lv_at hl 1 rfl) ?_
                                                                          refine q_get C h km0 fl_X11_17 (v := .ref (M 3)) rfl dX11_image_19 ?_
                                                                          refine lv_iload_n hx hb dX11_image_22 rfl (lv_at hl 0 rfl) ?_
                                                                          refine q_iald C h km3 (by unfold vp_in; decide) dX11_image_23 ?_
                                                                          refine lv_topi (fun x_ e_ => ?_)
                                                                          obtain rfl : 0 = x_ := e_.symm
                                                                          refine q_iast C h km4 (by unfold vp_in; decide) dX11_image_24 (fun H locs h => ?_)
                                                                          rw [upd0] at h
                                                                          rw [hu_id km4] at h
                                                                          refine lv_iinc (v := 36) (lv' := [(1, .int 36), (0, .ref (M 0))]) hx hb dX11_image_25 hl (k := 0) rfl (by decide) (by decide) rfl (fun ls hl => ?_)
                                                                          refine lv_goto (tgt := 7) hx hb dX11_image_28 (by decide) ?_
                                                                          refine lv_iload_n hx hb dX11_image_7 rfl (lv_at hl 0 rfl) ?_
                                                                          refine lv_bipush (v := 81) hx hb dX11_image_8 (by decide) ?_
                                                                          refine lv_icmp_ge (tgt := 31) hx hb dX11_image_10 (by decide) (fun c_578 => ?_) (fun c_578 => ?_)
                                                                          · exact absurd c_578 (by decide)
                                                                          · refine lv_aload_n hx hb dX11_image_13 rfl (lv_at hl 1 rfl) ?_
                                                                            refine q_get C h km0 fl_X11_20 (v := .ref (M 4)) rfl dX11_image_14 ?_
                                                                            refine lv_iload_n hx hb dX11_image_17 rfl (lv_at hl 0 rfl) ?_
                                                                            refine lv_aload_n hx hb dX11_image_18 rfl (lv_at hl 1 rfl) ?_
                                                                            refine q_get C h km0 fl_X11_17 (v := .ref (M 3)) rfl dX11_image_19 ?_
                                                                            refine lv_iload_n hx hb dX11_image_22 rfl (lv_at hl 0 rfl) ?_
                                                                            refine q_iald C h km3 (by unfold vp_in; decide) dX11_image_23 ?_
                                                                            refine lv_topi (fun x_ e_ => ?_)
                                                                            obtain rfl : 0 = x_ := e_.symm
                                                                            refine q_iast C h km4 (by unfold vp_in; decide) dX11_image_24 (fun H locs h => ?_)
                                                                            rw [upd0] at h
                                                                            rw [hu_id km4] at h
                                                                            refine lv_iinc (v := 37) (lv' := [(1, .int 37), (0, .ref (M 0))]) hx hb dX11_image_25 hl (k := 0) rfl (by decide) (by decide) rfl (fun ls hl => ?_)
                                                                            refine lv_goto (tgt := 7) hx hb dX11_image_28 (by decide) ?_
                                                                            refine lv_iload_n hx hb dX11_image_7 rfl (lv_at hl 0 rfl) ?_
                                                                            refine lv_bipush (v := 81) hx hb dX11_image_8 (by decide) ?_
                                                                            refine lv_icmp_ge (tgt := 31) hx hb dX11_image_10 (by decide) (fun c_580 => ?_) (fun c_580 => ?_)
                                                                            · exact absurd c_580 (by decide)
                                                                            · refine lv_aload_n hx hb dX11_image_13 rfl (lv_at hl 1 rfl) ?_
                                                                              refine q_get C h km0 fl_X11_20 (v := .ref (M 4)) rfl dX11_image_14 ?_
                                                                              refine lv_iload_n hx hb dX11_image_17 rfl (lv_at hl 0 rfl) ?_
                                                                              refine lv_aload_n hx hb dX11_image_18 rfl (lv_at hl 1 rfl) ?_
                                                                              refine q_get C h km0 fl_X11_17 (v := .ref (M 3)) rfl dX11_image_19 ?_
                                                                              refine lv_iload_n hx hb dX11_image_22 rfl (lv_at hl 0 rfl) ?_
                                                                              refine q_iald C h km3 (by unfold vp_in; decide) dX11_image_23 ?_
                                                                              refine lv_topi (fun x_ e_ => ?_)
                                                                              obtain rfl : 0 = x_ := e_.symm
                                                                              refine q_iast C h km4 (by unfold vp_in; decide) dX11_image_24 (fun H locs h => ?_)
                                                                              rw [upd0] at h
                                                                              rw [hu_id km4] at h
                                                                              refine lv_iinc (v := 38) (lv' := [(1, .int 38), (0, .ref (M 0))]) hx hb dX11_image_25 hl (k := 0) rfl (by decide) (by decide) rfl (fun ls hl => ?_)
                                                                              refine lv_goto (tgt := 7) hx hb dX11_image_28 (by decide) ?_
                                                                              refine lv_iload_n hx hb dX11_image_7 rfl (lv_at hl 0 rfl) ?_
                                                                              refine lv_bipush (v := 81) hx hb dX11_image_8 (by decide) ?_
                                                                              refine lv_icmp_ge (tgt := 31) hx hb dX11_image_10 (by decide) (fun c_582 => ?_) (fun c_582 => ?_)
                                                                              · exact absurd c_582 (by decide)
                                                                              · refine lv_aload_n hx hb dX11_image_13 rfl (lv_at hl 1 rfl) ?_
                                                                                refine q_get C h km0 fl_X11_20 (v := .ref (M 4)) rfl dX11_image_14 ?_
                                                                                refine lv_iload_n hx hb dX11_image_17 rfl (lv_at hl 0 rfl) ?_
                                                                                refine lv_aload_n hx hb dX11_image_18 rfl (lv_at hl 1 rfl) ?_
                                                                                refine q_get C h km0 fl_X11_17 (v := .ref (M 3)) rfl dX11_image_19 ?_
                                                                                refine lv_iload_n hx hb dX11_image_22 rfl (lv_at hl 0 rfl) ?_
                                                                                refine q_iald C h km3 (by unfold vp_in; decide) dX11_image_23 ?_
                                                                                refine lv_topi (fun x_ e_ => ?_)
                                                                                obtain rfl : 0 = x_ := e_.symm
                                                                                refine q_iast C h km4 (by unfold vp_in; decide) dX11_image_24 (fun H locs h => ?_)
                                                                                rw [upd0] at h
                                                                                rw [hu_id km4] at h
                                                                                refine lv_iinc (v := 39) (lv' := [(1, .int 39), (0, .ref (M 0))]) hx hb dX11_image_25 hl (k := 0) rfl (by decide) (by decide) rfl (fun ls hl => ?_)
                                                                                refine lv_goto (tgt := 7) hx hb dX11_image_28 (by decide) ?_
                                                                                refine lv_iload_n hx hb dX11_image_7 rfl (lv_at hl 0 rfl) ?_
                                                                                refine lv_bipush (v := 81) hx hb dX11_image_8 (by decide) ?_
                                                                                refine lv_icmp_ge (tgt := 31) hx hb dX11_image_10 (by decide) (fun c_584 => ?_) (fun c_584 => ?_)
                                                                                · exact absurd c_584 (by decide)
                                                                                · refine lv_aload_n hx hb dX11_image_13 rfl (lv_at hl 1 rfl) ?_
                                                                                  refine q_get C h km0 fl_X11_20 (v := .ref (M 4)) rfl dX11_image_14 ?_
                                                                                  refine lv_iload_n hx hb dX11_image_17 rfl (lv_at hl 0 rfl) ?_
                                                                                  refine lv_aload_n hx hb dX11_image_18 rfl (lv_at hl 1 rfl) ?_
                                                                                  refine q_get C h km0 fl_X11_17 (v := .ref (M 3)) rfl dX11_image_19 ?_
                                                                                  refine lv_iload_n hx hb dX11_image_22 rfl (lv_at hl 0 rfl) ?_
                                                                                  refine q_iald C h km3 (by unfold vp_in; decide) dX11_image_23 ?_
                                                                                  refine lv_topi (fun x_ e_ => ?_)
                                                                                  obtain rfl : 0 = x_ := e_.symm
                                                                                  refine q_iast C h km4 (by unfold vp_in; decide) dX11_image_24 (fun H locs h => ?_)
                                                                                  rw [upd0] at h
                                                                                  rw [hu_id km4] at h
                                                                                  refine lv_iinc (v := 40) (lv' := [(1, .int 40), (0, .ref (M 0))]) hx hb dX11_image_25 hl (k := 0) rfl (by decide) (by decide) rfl (fun ls hl => ?_)
                                                                                  refine lv_goto (tgt := 7) hx hb dX11_image_28 (by decide) ?_
                                                                                  refine lv_iload_n hx hb dX11_image_7 rfl (lv_at hl 0 rfl) ?_
                                                                                  refine lv_bipush (v := 81) hx hb dX11_image_8 (by decide) ?_
                                                                                  refine lv_icmp_ge (tgt := 31) hx hb dX11_image_10 (by decide) (fun c_586 => ?_) (fun c_586 => ?_)
                                                                                  · exact absurd c_586 (by decide)
                                                                                  · refine lv_aload_n hx hb dX11_image_13 rfl (lv_at hl 1 rfl) ?_
                                                                                    refine q_get C h km0 fl_X11_20 (v := .ref (M 4)) rfl dX11_image_14 ?_
                                                                                    refine lv_iload_n hx hb dX11_image_17 rfl (lv_at hl 0 rfl) ?_
                                                                                    refine lv_aload_n hx hb dX11_image_18 rfl (lv_at hl 1 rfl) ?_
                                                                                    refine q_get C h km0 fl_X11_17 (v := .ref (M 3)) rfl dX11_image_19 ?_
                                                                                    refine lv_iload_n hx hb dX11_image_22 rfl (lv_at hl 0 rfl) ?_
                                                                                    refine q_iald C h km3 (by unfold vp_in; decide) dX11_image_23 ?_
                                                                                    refine lv_topi (fun x_ e_ => ?_)
                                                                                    obtain rfl : 0 = x_ := e_.symm
                                                                                    refine q_iast C h km4 (by unfold vp_in; decide) dX11_image_24 (fun H locs h => ?_)
                                                                                    rw [upd0] at h
                                                                                    rw [hu_id km4] at h
                                                                                    refine lv_iinc (v := 41) (lv' := [(1, .int 41), (0, .ref (M 0))]) hx hb dX11_image_25 hl (k := 0) rfl (by decide) (by decide) rfl (fun ls hl => ?_)
                                                                                    refine lv_goto (tgt := 7) hx hb dX11_image_28 (by decide) ?_
                                                                                    refine lv_iload_n hx hb dX11_image_7 rfl (lv_at hl 0 rfl) ?_
                                                                                    refine lv_bipush (v := 81) hx hb dX11_image_8 (by decide) ?_
                                                                                    refine lv_icmp_ge (tgt := 31) hx hb dX11_image_10 (by decide) (fun c_588 => ?_) (fun c_588 => ?_)
                                                                                    · exact absurd c_588 (by decide)
                                                                                    · refine lv_aload_n hx hb dX11_image_13 rfl (lv_at hl 1 rfl) ?_
                                                                                      refine q_get C h km0 fl_X11_20 (v := .ref (M 4)) rfl dX11_image_14 ?_
                                                                                      refine lv_iload_n hx hb dX11_image_17 rfl (lv_at hl 0 rfl) ?_
                                                                                      refine lv_aload_n hx hb dX11_image_18 rfl (lv_at hl 1 rfl) ?_
                                                                                      refine q_get C h km0 fl_X11_17 (v := .ref (M 3)) rfl dX11_image_19 ?_
                                                                                      refine lv_iload_n hx hb dX11_image_22 rfl (lv_at hl 0 rfl) ?_
                                                                                      refine q_iald C h km3 (by unfold vp_in; decide) dX11_image_23 ?_
                                                                                      refine lv_topi (fun x_ e_ => ?_)
                                                                                      obtain rfl : 0 = x_ := e_.symm
                                                                                      refine q_iast C h km4 (by unfold vp_in; decide) dX11_image_24 (fun H locs h => ?_)
                                                                                      rw [upd0] at h
                                                                                      rw [hu_id km4] at h
                                                                                      refine lv_iinc (v := 42) (lv' := [(1, .int 42), (0, .ref (M 0))]) hx hb dX11_image_25 hl (k := 0) rfl (by decide) (by decide) rfl (fun ls hl => ?_)
                                                                                      refine lv_goto (tgt := 7) hx hb dX11_image_28 (by decide) ?_
                                                                                      refine lv_iload_n hx hb dX11_image_7 rfl (lv_at hl 0 rfl) ?_
                                                                                      refine lv_bipush (v := 81) hx hb dX11_image_8 (by decide) ?_
                                                                                      refine lv_icmp_ge (tgt := 31) hx hb dX11_image_10 (by decide) (fun c_590 => ?_) (fun c_590 => ?_)
                                                                                      · exact absurd c_590 (by decide)
                                                                                      · refine lv_aload_n hx hb dX11_image_13 rfl (lv_at hl 1 rfl) ?_
                                                                                        refine q_get C h km0 fl_X11_20 (v := .ref (M 4)) rfl dX11_image_14 ?_
                                                                                        refine lv_iload_n hx hb dX11_image_17 rfl (lv_at hl 0 rfl) ?_
                                                                                        refine lv_aload_n hx hb dX11_image_18 rfl (lv_at hl 1 rfl) ?_
                                                                                        refine q_get C h km0 fl_X11_17 (v := .ref (M 3)) rfl dX11_image_19 ?_
                                                                                        refine lv_iload_n hx hb dX11_image_22 rfl (lv_at hl 0 rfl) ?_
                                                                                        refine q_iald C h km3 (by unfold vp_in; decide) dX11_image_23 ?_
                                                                                        refine lv_topi (fun x_ e_ => ?_)
                                                                                        obtain rfl : 0 = x_ := e_.symm
                                                                                        refine q_iast C h km4 (by unfold vp_in; decide) dX11_image_24 (fun H locs h => ?_)
                                                                                        rw [upd0] at h
                                                                                        rw [hu_id km4] at h
                                                                                        refine lv_iinc (v := 43) (lv' := [(1, .int 43), (0, .ref (M 0))]) hx hb dX11_image_25 hl (k := 0) rfl (by decide) (by decide) rfl (fun ls hl => ?_)
                                                                                        refine lv_goto (tgt := 7) hx hb dX11_image_28 (by decide) ?_
                                                                                        refine lv_iload_n hx hb dX11_image_7 rfl (lv_at hl 0 rfl) ?_
                                                                                        refine lv_bipush (v := 81) hx hb dX11_image_8 (by decide) ?_
                                                                                        refine lv_icmp_ge (tgt := 31) hx hb dX11_image_10 (by decide) (fun c_592 => ?_) (fun c_592 => ?_)
                                                                                        · exact absurd c_592 (by decide)
                                                                                        · refine lv_aload_n hx hb dX11_image_13 rfl (lv_at hl 1 rfl) ?_
                                                                                          refine q_get C h km0 fl_X11_20 (v := .ref (M 4)) rfl dX11_image_14 ?_
                                                                                          refine lv_iload_n hx hb dX11_image_17 rfl (lv_at hl 0 rfl) ?_
                                                                                          refine lv_aload_n hx hb dX11_image_18 rfl (lv_at hl 1 rfl) ?_
                                                                                          refine q_get C h km0 fl_X11_17 (v := .ref (M 3)) rfl dX11_image_19 ?_
                                                                                          refine lv_iload_n hx hb dX11_image_22 rfl (lv_at hl 0 rfl) ?_
                                                                                          refine q_iald C h km3 (by unfold vp_in; decide) dX11_image_23 ?_
                                                                                          refine lv_topi (fun x_ e_ => ?_)
                                                                                          obtain rfl : 0 = x_ := e_.symm
                                                                                          refine q_iast C h km4 (by unfold vp_in; decide) dX11_image_24 (fun H locs h => ?_)
                                                                                          rw [upd0] at h
                                                                                          rw [hu_id km4] at h
                                                                                          refine lv_iinc (v := 44) (lv' := [(1, .int 44), (0, .ref (M 0))]) hx hb dX11_image_25 hl (k := 0) rfl (by decide) (by decide) rfl (fun ls hl => ?_)
                                                                                          refine lv_goto (tgt := 7) hx hb dX11_image_28 (by decide) ?_
                                                                                          refine lv_iload_n hx hb dX11_image_7 rfl (lv_at hl 0 rfl) ?_
                                                                                          refine lv_bipush (v := 81) hx hb dX11_image_8 (by decide) ?_
                                                                                          refine lv_icmp_ge (tgt := 31) hx hb dX11_image_10 (by decide) (fun c_594 => ?_) (fun c_594 => ?_)
                                                                                          · exact absurd c_594 (by decide)
                                                                                          · refine lv_aload_n hx hb dX11_image_13 rfl (lv_at hl 1 rfl) ?_
                                                                                            refine q_get C h km0 fl_X11_20 (v := .ref (M 4)) rfl dX11_image_14 ?_
                                                                                            refine lv_iload_n hx hb dX11_image_17 rfl (lv_at hl 0 rfl) ?_
                                                                                            refine lv_aload_n hx hb dX11_image_18 rfl (lv_at hl 1 rfl) ?_
                                                                                            refine q_get C h km0 fl_X11_17 (v := .ref (M 3)) rfl dX11_image_19 ?_
                                                                                            refine lv_iload_n hx hb dX11_image_22 rfl (lv_at hl 0 rfl) ?_
                                                                                            refine q_iald C h km3 (by unfold vp_in; decide) dX11_image_23 ?_
                                                                                            refine lv_topi (fun x_ e_ => ?_)
                                                                                            obtain rfl : 0 = x_ := e_.symm
                                                                                            refine q_iast C h km4 (by unfold vp_in; decide) dX11_image_24 (fun H locs h => ?_)
                                                                                            rw [upd0] at h
                                                                                            rw [hu_id km4] at h
                                                                                            refine lv_iinc (v := 45) (lv' := [(1, .int 45), (0, .ref (M 0))]) hx hb dX11_image_25 hl (k := 0) rfl (by decide) (by decide) rfl (fun ls hl => ?_)
                                                                                            refine lv_goto (tgt := 7) hx hb dX11_image_28 (by decide) ?_
                                                                                            refine lv_iload_n hx hb dX11_image_7 rfl (lv_at hl 0 rfl) ?_
                                                                                            refine lv_bipush (v := 81) hx hb dX11_image_8 (by decide) ?_
                                                                                            refine lv_icmp_ge (tgt := 31) hx hb dX11_image_10 (by decide) (fun c_596 => ?_) (fun c_596 => ?_)
                                                                                            · exact absurd c_596 (by decide)
                                                                                            · refine lv_aload_n hx hb dX11_image_13 rfl (lv_at hl 1 rfl) ?_
                                                                                              refine q_get C h km0 fl_X11_20 (v := .ref (M 4)) rfl dX11_image_14 ?_
                                                                                              refine lv_iload_n hx hb dX11_image_17 rfl (lv_at hl 0 rfl) ?_
                                                                                              refine lv_aload_n hx hb dX11_image_18 rfl (lv_at hl 1 rfl) ?_
                                                                                              refine q_get C h km0 fl_X11_17 (v := .ref (M 3)) rfl dX11_image_19 ?_
                                                                                              refine lv_iload_n hx hb dX11_image_22 rfl (lv_at hl 0 rfl) ?_
                                                                                              refine q_iald C h km3 (by unfold vp_in; decide) dX11_image_23 ?_
                                                                                              refine lv_topi (fun x_ e_ => ?_)
                                                                                              obtain rfl : 0 = x_ := e_.symm
                                                                                              refine q_iast C h km4 (by unfold vp_in; decide) dX11_image_24 (fun H locs h => ?_)
                                                                                              rw [upd0] at h
                                                                                              rw [hu_id km4] at h
                                                                                              refine lv_iinc (v := 46) (lv' := [(1, .int 46), (0, .ref (M 0))]) hx hb dX11_image_25 hl (k := 0) rfl (by decide) (by decide) rfl (fun ls hl => ?_)
                                                                                              refine lv_goto (tgt := 7) hx hb dX11_image_28 (by decide) ?_
                                                                                              refine lv_iload_n hx hb dX11_image_7 rfl (lv_at hl 0 rfl) ?_
                                                                                              refine lv_bipush (v := 81) hx hb dX11_image_8 (by decide) ?_
                                                                                              refine lv_icmp_ge (tgt := 31) hx hb dX11_image_10 (by decide) (fun c_598 => ?_) (fun c_598 => ?_)
                                                                                              · exact absurd c_598 (by decide)
                                                                                              · refine lv_aload_n hx hb dX11_image_13 rfl (lv_at hl 1 rfl) ?_
                                                                                                refine q_get C h km0 fl_X11_20 (v := .ref (M 4)) rfl dX11_image_14 ?_
                                                                                                refine lv_iload_n hx hb dX11_image_17 rfl (lv_at hl 0 rfl) ?_
                                                                                                refine lv_aload_n hx hb dX11_image_18 rfl (lv_at hl 1 rfl) ?_
                                                                                                refine q_get C h km0 fl_X11_17 (v := .ref (M 3)) rfl dX11_image_19 ?_
                                                                                                refine lv_iload_n hx hb dX11_image_22 rfl (lv_at hl 0 rfl) ?_
                                                                                                refine q_iald C h km3 (by unfold vp_in; decide) dX11_image_23 ?_
                                                                                                refine lv_topi (fun x_ e_ => ?_)
                                                                                                obtain rfl : 0 = x_ := e_.symm
                                                                                                refine q_iast C h km4 (by unfold vp_in; decide) dX11_image_24 (fun H locs h => ?_)
                                                                                                rw [upd0] at h
                                                                                                rw [hu_id km4] at h
                                                                                                refine lv_iinc (v := 47) (lv' := [(1, .int 47), (0, .ref (M 0))]) hx hb dX11_image_25 hl (k := 0) rfl (by decide) (by decide) rfl (fun ls hl => ?_)
                                                                                                refine lv_goto (tgt := 7) hx hb dX11_image_28 (by decide) ?_
                                                                                                refine lv_iload_n hx hb dX11_image_7 rfl (lv_at hl 0 rfl) ?_
                                                                                                refine lv_bipush (v := 81) hx hb dX11_image_8 (by decide) ?_
                                                                                                refine lv_icmp_ge (tgt := 31) hx hb dX11_image_10 (by decide) (fun c_600 => ?_) (fun c_600 => ?_)
                                                                                                · exact absurd c_600 (by decide)
                                                                                                · refine lv_aload_n hx hb dX11_image_13 rfl (lv_at hl 1 rfl) ?_
                                                                                                  refine q_get C h km0 fl_X11_20 (v := .ref (M 4)) rfl dX11_image_14 ?_
                                                                                                  refine lv_iload_n hx hb dX11_image_17 rfl (lv_at hl 0 rfl) ?_
                                                                                                  refine lv_aload_n hx hb dX11_image_18 rfl (lv_at hl 1 rfl) ?_
                                                                                                  refine q_get C h km0 fl_X11_17 (v := .ref (M 3)) rfl dX11_image_19 ?_
                                                                                                  refine lv_iload_n hx hb dX11_image_22 rfl (lv_at hl 0 rfl) ?_
                                                                                                  refine q_iald C h km3 (by unfold vp_in; decide) dX11_image_23 ?_
                                                                                                  refine lv_topi (fun x_ e_ => ?_)
                                                                                                  obtain rfl : 0 = x_ := e_.symm
                                                                                                  refine q_iast C h km4 (by unfold vp_in; decide) dX11_image_24 (fun H locs h => ?_)
                                                                                                  rw [upd0] at h
                                                                                                  rw [hu_id km4] at h
                                                                                                  refine lv_iinc (v := 48) (lv' := [(1, .int 48), (0, .ref (M 0))]) hx hb dX11_image_25 hl (k := 0) rfl (by decide) (by decide) rfl (fun ls hl => ?_)
                                                                                                  refine lv_goto (tgt := 7) hx hb dX11_image_28 (by decide) ?_
                                                                                                  refine lv_iload_n hx hb dX11_image_7 rfl (lv_at hl 0 rfl) ?_
                                                                                                  refine lv_bipush (v := 81) hx hb dX11_image_8 (by decide) ?_
                                                                                                  refine lv_icmp_ge (tgt := 31) hx hb dX11_image_10 (by decide) (fun c_602 => ?_) (fun c_602 => ?_)
                                                                                                  · exact absurd c_602 (by decide)
                                                                                                  · refine lv_aload_n hx hb dX11_image_13 rfl (lv_at hl 1 rfl) ?_
                                                                                                    refine q_get C h km0 fl_X11_20 (v := .ref (M 4)) rfl dX11_image_14 ?_
                                                                                                    refine lv_iload_n hx hb dX11_image_17 rfl (lv_at hl 0 rfl) ?_
                                                                                                    refine lv_aload_n hx hb dX11_image_18 rfl (lv_at hl 1 rfl) ?_
                                                                                                    refine q_get C h km0 fl_X11_17 (v := .ref (M 3)) rfl dX11_image_19 ?_
                                                                                                    refine lv_iload_n hx hb dX11_image_22 rfl (lv_at hl 0 rfl) ?_
                                                                                                    refine q_iald C h km3 (by unfold vp_in; decide) dX11_image_23 ?_
                                                                                                    refine lv_topi (fun x_ e_ => ?_)
                                                                                                    obtain rfl : 0 = x_ := e_.symm
                                                                                                    refine q_iast C h km4 (by unfold vp_in; decide) dX11_image_24 (fun H locs h => ?_)
                                                                                                    rw [upd0] at h
                                                                                                    rw [hu_id km4] at h
                                                                                                    refine lv_iinc (v := 49) (lv' := [(1, .int 49), (0, .ref (M 0))]) hx hb dX11_image_25 hl (k := 0) rfl (by decide) (by decide) rfl (fun ls hl => ?_)
                                                                                                    refine lv_goto (tgt := 7) hx hb dX11_image_28 (by decide) ?_
                                                                                                    refine lv_iload_n hx hb dX11_image_7 rfl (lv_at hl 0 rfl) ?_
                                                                                                    refine lv_bipush (v := 81) hx hb dX11_image_8 (by decide) ?_
                                                                                                    refine lv_icmp_ge (tgt := 31) hx hb dX11_image_10 (by decide) (fun c_604 => ?_) (fun c_604 => ?_)
                                                                                                    · exact absurd c_604 (by decide)
                                                                                                    · refine lv_aload_n hx hb dX11_image_13 rfl (lv_at hl 1 rfl) ?_
                                                                                                      refine q_get C h km0 fl_X11_20 (v := .ref (M 4)) rfl dX11_image_14 ?_
                                                                                                      refine lv_iload_n hx hb dX11_image_17 rfl (lv_at hl 0 rfl) ?_
                                                                                                      refine lv_aload_n hx hb dX11_image_18 rfl (lv_at hl 1 rfl) ?_
                                                                                                      refine q_get C h km0 fl_X11_17 (v := .ref (M 3)) rfl dX11_image_19 ?_
                                                                                                      refine lv_iload_n hx hb dX11_image_22 rfl (lv_at hl 0 rfl) ?_
                                                                                                      refine q_iald C h km3 (by unfold vp_in; decide) dX11_image_23 ?_
                                                                                                      refine lv_topi (fun x_ e_ => ?_)
                                                                                                      obtain rfl : 0 = x_ := e_.symm
                                                                                                      refine q_iast C h km4 (by unfold vp_in; decide) dX11_image_24 (fun H locs h => ?_)
                                                                                                      rw [upd0] at h
                                                                                                      rw [hu_id km4] at h
                                                                                                      refine lv_iinc (v := 50) (lv' := [(1, .int 50), (0, .ref (M 0))]) hx hb dX11_image_25 hl (k := 0) rfl (by decide) (by decide) rfl (fun ls hl => ?_)
                                                                                                      refine lv_goto (tgt := 7) hx hb dX11_image_28 (by decide) ?_
                                                                                                      refine lv_iload_n hx hb dX11_image_7 rfl (lv_at hl 0 rfl) ?_
                                                                                                      refine lv_bipush (v := 81) hx hb dX11_image_8 (by decide) ?_
                                                                                                      refine lv_icmp_ge (tgt := 31) hx hb dX11_image_10 (by decide) (fun c_606 => ?_) (fun c_606 => ?_)
                                                                                                      · exact absurd c_606 (by decide)
                                                                                                      · refine lv_aload_n hx hb dX11_image_13 rfl (lv_at hl 1 rfl) ?_
                                                                                                        refine q_get C h km0 fl_X11_20 (v := .ref (M 4)) rfl dX11_image_14 ?_
                                                                                                        refine lv_iload_n hx hb dX11_image_17 rfl (lv_at hl 0 rfl) ?_
                                                                                                        refine lv_aload_n hx hb dX11_image_18 rfl (lv_at hl 1 rfl) ?_
                                                                                                        refine q_get C h km0 fl_X11_17 (v := .ref (M 3)) rfl dX11_image_19 ?_
                                                                                                        refine lv_iload_n hx hb dX11_image_22 rfl (lv_at hl 0 rfl) ?_
                                                                                                        refine q_iald C h km3 (by unfold vp_in; decide) dX11_image_23 ?_
                                                                                                        refine lv_topi (fun x_ e_ => ?_)
                                                                                                        obtain rfl : 0 = x_ := e_.symm
                                                                                                        refine q_iast C h km4 (by unfold vp_in; decide) dX11_image_24 (fun H locs h => ?_)
                                                                                                        rw [upd0] at h
                                                                                                        rw [hu_id km4] at h
                                                                                                        refine lv_iinc (v := 51) (lv' := [(1, .int 51), (0, .ref (M 0))]) hx hb dX11_image_25 hl (k := 0) rfl (by decide) (by decide) rfl (fun ls hl => ?_)
                                                                                                        refine lv_goto (tgt := 7) hx hb dX11_image_28 (by decide) ?_
                                                                                                        refine lv_iload_n hx hb dX11_image_7 rfl (lv_at hl 0 rfl) ?_
                                                                                                        refine lv_bipush (v := 81) hx hb dX11_image_8 (by decide) ?_
                                                                                                        refine lv_icmp_ge (tgt := 31) hx hb dX11_image_10 (by decide) (fun c_608 => ?_) (fun c_608 => ?_)
                                                                                                        · exact absurd c_608 (by decide)
                                                                                                        · refine lv_aload_n hx hb dX11_image_13 rfl (lv_at hl 1 rfl) ?_
                                                                                                          refine q_get C h km0 fl_X11_20 (v := .ref (M 4)) rfl dX11_image_14 ?_
                                                                                                          refine lv_iload_n hx hb dX11_image_17 rfl (lv_at hl 0 rfl) ?_
                                                                                                          refine lv_aload_n hx hb dX11_image_18 rfl (lv_at hl 1 rfl) ?_
                                                                                                          refine q_get C h km0 fl_X11_17 (v := .ref (M 3)) rfl dX11_image_19 ?_
                                                                                                          refine lv_iload_n hx hb dX11_image_22 rfl (lv_at hl 0 rfl) ?_
                                                                                                          refine q_iald C h km3 (by unfold vp_in; decide) dX11_image_23 ?_
                                                                                                          refine lv_topi (fun x_ e_ => ?_)
                                                                                                          obtain rfl : 0 = x_ := e_.symm
                                                                                                          refine q_iast C h km4 (by unfold vp_in; decide) dX11_image_24 (fun H locs h => ?_)
                                                                                                          rw [upd0] at h
                                                                                                          rw [hu_id km4] at h
                                                                                                          refine lv_iinc (v := 52) (lv' := [(1, .int 52), (0, .ref (M 0))]) hx hb dX11_image_25 hl (k := 0) rfl (by decide) (by decide) rfl (fun ls hl => ?_)
                                                                                                          refine lv_goto (tgt := 7) hx hb dX11_image_28 (by decide) ?_
                                                                                                          refine lv_iload_n hx hb dX11_image_7 rfl (lv_at hl 0 rfl) ?_
                                                                                                          refine lv_bipush (v := 81) hx hb dX11_image_8 (by decide) ?_
                                                                                                          refine lv_icmp_ge (tgt := 31) hx hb dX11_image_10 (by decide) (fun c_610 => ?_) (fun c_610 => ?_)
                                                                                                          · exact absurd c_610 (by decide)
                                                                                                          · refine lv_aload_n hx hb dX11_image_13 rfl (lv_at hl 1 rfl) ?_
                                                                                                            refine q_get C h km0 fl_X11_20 (v := .ref (M 4)) rfl dX11_image_14 ?_
                                                                                                            refine lv_iload_n hx hb dX11_image_17 rfl (lv_at hl 0 rfl) ?_
                                                                                                            refine lv_aload_n hx hb dX11_image_18 rfl (lv_at hl 1 rfl) ?_
                                                                                                            refine q_get C h km0 fl_X11_17 (v := .ref (M 3)) rfl dX11_image_19 ?_
                                                                                                            refine lv_iload_n hx hb dX11_image_22 rfl (lv_at hl 0 rfl) ?_
                                                                                                            refine q_iald C h km3 (by unfold vp_in; decide) dX11_image_23 ?_
                                                                                                            refine lv_topi (fun x_ e_ => ?_)
                                                                                                            obtain rfl : 0 = x_ := e_.symm
                                                                                                            refine q_iast C h km4 (by unfold vp_in; decide) dX11_image_24 (fun H locs h => ?_)
                                                                                                            rw [upd0] at h
                                                                                                            rw [hu_id km4] at h
                                                                                                            refine lv_iinc (v := 53) (lv' := [(1, .int 53), (0, .ref (M 0))]) hx hb dX11_image_25 hl (k := 0) rfl (by decide) (by decide) rfl (fun ls hl => ?_)
                                                                                                            refine lv_goto (tgt := 7) hx hb dX11_image_28 (by decide) ?_
                                                                                                            refine lv_iload_n hx hb dX11_image_7 rfl (lv_at hl 0 rfl) ?_
                                                                                                            refine lv_bipush (v := 81) hx hb dX11_image_8 (by decide) ?_
                                                                                                            refine lv_icmp_ge (tgt := 31) hx hb dX11_image_10 (by decide) (fun c_612 => ?_) (fun c_612 => ?_)
                                                                                                            · exact absurd c_612 (by decide)
                                                                                                            · refine lv_aload_n hx hb dX11_image_13 rfl (lv_at hl 1 rfl) ?_
                                                                                                              refine q_get C h km0 fl_X11_20 (v := .ref (M 4)) rfl dX11_image_14 ?_
                                                                                                              refine lv_iload_n hx hb dX11_image_17 rfl (lv_at hl 0 rfl) ?_
                                                                                                              refine lv_aload_n hx hb dX11_image_18 rfl (lv_at hl 1 rfl) ?_
                                                                                                              refine q_get C h km0 fl_X11_17 (v := .ref (M 3)) rfl dX11_image_19 ?_
                                                                                                              refine lv_iload_n hx hb dX11_image_22 rfl (lv_at hl 0 rfl) ?_
                                                                                                              refine q_iald C h km3 (by unfold vp_in; decide) dX11_image_23 ?_
                                                                                                              refine lv_topi (fun x_ e_ => ?_)
                                                                                                              obtain rfl : 0 = x_ := e_.symm
                                                                                                              refine q_iast C h km4 (by unfold vp_in; decide) dX11_image_24 (fun H locs h => ?_)
                                                                                                              rw [upd0] at h
                                                                                                              rw [hu_id km4] at h
                                                                                                              refine lv_iinc (v := 54) (lv' := [(1, .int 54), (0, .ref (M 0))]) hx hb dX11_image_25 hl (k := 0) rfl (by decide) (by decide) rfl (fun ls hl => ?_)
                                                                                                              refine lv_goto (tgt := 7) hx hb dX11_image_28 (by decide) ?_
                                                                                                              refine lv_iload_n hx hb dX11_image_7 rfl (lv_at hl 0 rfl) ?_
                                                                                                              refine lv_bipush (v := 81) hx hb dX11_image_8 (by decide) ?_
                                                                                                              refine lv_icmp_ge (tgt := 31) hx hb dX11_image_10 (by decide) (fun c_614 => ?_) (fun c_614 => ?_)
                                                                                                              · exact absurd c_614 (by decide)
                                                                                                              · refine lv_aload_n hx hb dX11_image_13 rfl (lv_at hl 1 rfl) ?_
                                                                                                                refine q_get C h km0 fl_X11_20 (v := .ref (M 4)) rfl dX11_image_14 ?_
                                                                                                                refine lv_iload_n hx hb dX11_image_17 rfl (lv_at hl 0 rfl) ?_
                                                                                                                refine lv_aload_n hx hb dX11_image_18 rfl (lv_at hl 1 rfl) ?_
                                                                                                                refine q_get C h km0 fl_X11_17 (v := .ref (M 3)) rfl dX11_image_19 ?_
                                                                                                                refine lv_iload_n hx hb dX11_image_22 rfl (lv_at hl 0 rfl) ?_
                                                                                                                refine q_iald C h km3 (by unfold vp_in; decide) dX11_image_23 ?_
                                                                                                                refine lv_topi (fun x_ e_ => ?_)
                                                                                                                obtain rfl : 0 = x_ := e_.symm
                                                                                                                refine q_iast C h km4 (by unfold vp_in; decide) dX11_image_24 (fun H locs h => ?_)
                                                                                                                rw [upd0] at h
                                                                                                                rw [hu_id km4] at h
                                                                                                                refine lv_iinc (v := 55) (lv' := [(1, .int 55), (0, .ref (M 0))]) hx hb dX11_image_25 hl (k := 0) rfl (by decide) (by decide) rfl (fun ls hl => ?_)
                                                                                                                refine lv_goto (tgt := 7) hx hb dX11_image_28 (by decide) ?_
                                                                                                                refine lv_iload_n hx hb dX11_image_7 rfl (lv_at hl 0 rfl) ?_
                                                                                                                refine lv_bipush (v := 81) hx hb dX11_image_8 (by decide) ?_
                                                                                                                refine lv_icmp_ge (tgt := 31) hx hb dX11_image_10 (by decide) (fun c_616 => ?_) (fun c_616 => ?_)
                                                                                                                · exact absurd c_616 (by decide)
                                                                                                                · refine lv_aload_n hx hb dX11_image_13 rfl (lv_at hl 1 rfl) ?_
                                                                                                                  refine q_get C h km0 fl_X11_20 (v := .ref (M 4)) rfl dX11_image_14 ?_
                                                                                                                  refine lv_iload_n hx hb dX11_image_17 rfl (lv_at hl 0 rfl) ?_
                                                                                                                  refine lv_aload_n hx hb dX11_image_18 rfl (lv_at hl 1 rfl) ?_
                                                                                                                  refine q_get C h km0 fl_X11_17 (v := .ref (M 3)) rfl dX11_image_19 ?_
                                                                                                                  refine lv_iload_n hx hb dX11_image_22 rfl (lv_at hl 0 rfl) ?_
                                                                                                                  refine q_iald C h km3 (by unfold vp_in; decide) dX11_image_23 ?_
                                                                                                                  refine lv_topi (fun x_ e_ => ?_)
                                                                                                                  obtain rfl : 0 = x_ := e_.symm
                                                                                                                  refine q_iast C h km4 (by unfold vp_in; decide) dX11_image_24 (fun H locs h => ?_)
                                                                                                                  rw [upd0] at h
                                                                                                                  rw [hu_id km4] at h
                                                                                                                  refine lv_iinc (v := 56) (lv' := [(1, .int 56), (0, .ref (M 0))]) hx hb dX11_image_25 hl (k := 0) rfl (by decide) (by decide) rfl (fun ls hl => ?_)
                                                                                                                  refine lv_goto (tgt := 7) hx hb dX11_image_28 (by decide) ?_
                                                                                                                  refine lv_iload_n hx hb dX11_image_7 rfl (lv_at hl 0 rfl) ?_
                                                                                                                  refine lv_bipush (v := 81) hx hb dX11_image_8 (by decide) ?_
                                                                                                                  refine lv_icmp_ge (tgt := 31) hx hb dX11_image_10 (by decide) (fun c_618 => ?_) (fun c_618 => ?_)
                                                                                                                  · exact absurd c_618 (by decide)
                                                                                                                  · refine lv_aload_n hx hb dX11_image_13 rfl (lv_at hl 1 rfl) ?_
                                                                                                                    refine q_get C h km0 fl_X11_20 (v := .ref (M 4)) rfl dX11_image_14 ?_
                                                                                                                    refine lv_iload_n hx hb dX11_image_17 rfl (lv_at hl 0 rfl) ?_
                                                                                                                    refine lv_aload_n hx hb dX11_image_18 rfl (lv_at hl 1 rfl) ?_
                                                                                                                    refine q_get C h km0 fl_X11_17 (v := .ref (M 3)) rfl dX11_image_19 ?_
                                                                                                                    refine lv_iload_n hx hb dX11_image_22 rfl (lv_at hl 0 rfl) ?_
                                                                                                                    refine q_iald C h km3 (by unfold vp_in; decide) dX11_image_23 ?_
                                                                                                                    refine lv_topi (fun x_ e_ => ?_)
                                                                                                                    obtain rfl : 0 = x_ := e_.symm
                                                                                                                    refine q_iast C h km4 (by unfold vp_in; decide) dX11_image_24 (fun H locs h => ?_)
                                                                                                                    rw [upd0] at h
                                                                                                                    rw [hu_id km4] at h
                                                                                                                    refine lv_iinc (v := 57) (lv' := [(1, .int 57), (0, .ref (M 0))]) hx hb dX11_image_25 hl (k := 0) rfl (by decide) (by decide) rfl (fun ls hl => ?_)
                                                                                                                    refine lv_goto (tgt := 7) hx hb dX11_image_28 (by decide) ?_
                                                                                                                    refine lv_iload_n hx hb dX11_image_7 rfl (lv_at hl 0 rfl) ?_
                                                                                                                    refine lv_bipush (v := 81) hx hb dX11_image_8 (by decide) ?_
                                                                                                                    refine lv_icmp_ge (tgt := 31) hx hb dX11_image_10 (by decide) (fun c_620 => ?_) (fun c_620 => ?_)
                                                                                                                    · exact absurd c_620 (by decide)
                                                                                                                    · refine lv_aload_n hx hb dX11_image_13 rfl (lv_at hl 1 rfl) ?_
                                                                                                                      refine q_get C h km0 fl_X11_20 (v := .ref (M 4)) rfl dX11_image_14 ?_
                                                                                                                      refine lv_iload_n hx hb dX11_image_17 rfl (lv_at hl 0 rfl) ?_
                                                                                                                      refine lv_aload_n hx hb dX11_image_18 rfl (lv_at hl 1 rfl) ?_
                                                                                                                      refine q_get C h km0 fl_X11_17 (v := .ref (M 3)) rfl dX11_image_19 ?_
                                                                                                                      refine lv_iload_n hx hb dX11_image_22 rfl (lv_at hl 0 rfl) ?_
                                                                                                                      refine q_iald C h km3 (by unfold vp_in; decide) dX11_image_23 ?_
                                                                                                                      refine lv_topi (fun x_ e_ => ?_)
                                                                                                                      obtain rfl : 0 = x_ := e_.symm
                                                                                                                      refine q_iast C h km4 (by unfold vp_in; decide) dX11_image_24 (fun H locs h => ?_)
                                                                                                                      rw [upd0] at h
                                                                                                                      rw [hu_id km4] at h
                                                                                                                      refine lv_iinc (v := 58) (lv' := [(1, .int 58), (0, .ref (M 0))]) hx hb dX11_image_25 hl (k := 0) rfl (by decide) (by decide) rfl (fun ls hl => ?_)
                                                                                                                      refine lv_goto (tgt := 7) hx hb dX11_image_28 (by decide) ?_
                                                                                                                      refine lv_iload_n hx hb dX11_image_7 rfl (lv_at hl 0 rfl) ?_
                                                                                                                      refine lv_bipush (v := 81) hx hb dX11_image_8 (by decide) ?_
                                                                                                                      refine lv_icmp_ge (tgt := 31) hx hb dX11_image_10 (by decide) (fun c_622 => ?_) (fun c_622 => ?_)
                                                                                                                      · exact absurd c_622 (by decide)
                                                                                                                      · refine lv_aload_n hx hb dX11_image_13 rfl (lv_at hl 1 rfl) ?_
                                                                                                                        refine q_get C h km0 fl_X11_20 (v := .ref (M 4)) rfl dX11_image_14 ?_
                                                                                                                        refine lv_iload_n hx hb dX11_image_17 rfl (lv_at hl 0 rfl) ?_
                                                                                                                        refine lv_aload_n hx hb dX11_image_18 rfl (lv_at hl 1 rfl) ?_
                                                                                                                        refine q_get C h km0 fl_X11_17 (v := .ref (M 3)) rfl dX11_image_19 ?_
                                                                                                                        refine lv_iload_n hx hb dX11_image_22 rfl (lv_at hl 0 rfl) ?_
                                                                                                                        refine q_iald C h km3 (by unfold vp_in; decide) dX11_image_23 ?_
                                                                                                                        refine lv_topi (fun x_ e_ => ?_)
                                                                                                                        obtain rfl : 0 = x_ := e_.symm
                                                                                                                        refine q_iast C h km4 (by unfold vp_in; decide) dX11_image_24 (fun H locs h => ?_)
                                                                                                                        rw [upd0] at h
                                                                                                                        rw [hu_id km4] at h
                                                                                                                        refine lv_iinc (v := 59) (lv' := [(1, .int 59), (0, .ref (M 0))]) hx hb dX11_image_25 hl (k := 0) rfl (by decide) (by decide) rfl (fun ls hl => ?_)
                                                                                                                        refine lv_goto (tgt := 7) hx hb dX11_image_28 (by decide) ?_
                                                                                                                        refine lv_iload_n hx hb dX11_image_7 rfl (lv_at hl 0 rfl) ?_
                                                                                                                        refine lv_bipush (v := 81) hx hb dX11_image_8 (by decide) ?_
                                                                                                                        refine lv_icmp_ge (tgt := 31) hx hb dX11_image_10 (by decide) (fun c_624 => ?_) (fun c_624 => ?_)
                                                                                                                        · exact absurd c_624 (by decide)
                                                                                                                        · refine lv_aload_n hx hb dX11_image_13 rfl (lv_at hl 1 rfl) ?_
                                                                                                                          refine q_get C h km0 fl_X11_20 (v := .ref (M 4)) rfl dX11_image_14 ?_
                                                                                                                          refine lv_iload_n hx hb dX11_image_17 rfl (lv_at hl 0 rfl) ?_
                                                                                                                          refine lv_aload_n hx hb dX11_image_18 rfl (lv_at hl 1 rfl) ?_
                                                                                                                          refine q_get C h km0 fl_X11_17 (v := .ref (M 3)) rfl dX11_image_19 ?_
                                                                                                                          refine lv_iload_n hx hb dX11_image_22 rfl (lv_at hl 0 rfl) ?_
                                                                                                                          refine q_iald C h km3 (by unfold vp_in; decide) dX11_image_23 ?_
                                                                                                                          refine lv_topi (fun x_ e_ => ?_)
                                                                                                                          obtain rfl : 0 = x_ := e_.symm
                                                                                                                          refine q_iast C h km4 (by unfold vp_in; decide) dX11_image_24 (fun H locs h => ?_)
                                                                                                                          rw [upd0] at h
                                                                                                                          rw [hu_id km4] at h
                                                                                                                          refine lv_iinc (v := 60) (lv' := [(1, .int 60), (0, .ref (M 0))]) hx hb dX11_image_25 hl (k := 0) rfl (by decide) (by decide) rfl (fun ls hl => ?_)
                                                                                                                          refine lv_goto (tgt := 7) hx hb dX11_image_28 (by decide) ?_
                                                                                                                          refine lv_iload_n hx hb dX11_image_7 rfl (lv_at hl 0 rfl) ?_
                                                                                                                          refine lv_bipush (v := 81) hx hb dX11_image_8 (by decide) ?_
                                                                                                                          refine lv_icmp_ge (tgt := 31) hx hb dX11_image_10 (by decide) (fun c_626 => ?_) (fun c_626 => ?_)
                                                                                                                          · exact absurd c_626 (by decide)
                                                                                                                          · refine lv_aload_n hx hb dX11_image_13 rfl (lv_at hl 1 rfl) ?_
                                                                                                                            refine q_get C h km0 fl_X11_20 (v := .ref (M 4)) rfl dX11_image_14 ?_
                                                                                                                            refine lv_iload_n hx hb dX11_image_17 rfl (lv_at hl 0 rfl) ?_
                                                                                                                            refine lv_aload_n hx hb dX11_image_18 rfl (lv_at hl 1 rfl) ?_
                                                                                                                            refine q_get C h km0 fl_X11_17 (v := .ref (M 3)) rfl dX11_image_19 ?_
                                                                                                                            refine lv_iload_n hx hb dX11_image_22 rfl (lv_at hl 0 rfl) ?_
                                                                                                                            refine q_iald C h km3 (by unfold vp_in; decide) dX11_image_23 ?_
                                                                                                                            refine lv_topi (fun x_ e_ => ?_)
                                                                                                                            obtain rfl : 0 = x_ := e_.symm
                                                                                                                            refine q_iast C h km4 (by unfold vp_in; decide) dX11_image_24 (fun H locs h => ?_)
                                                                                                                            rw [upd0] at h
                                                                                                                            rw [hu_id km4] at h
                                                                                                                            refine lv_iinc (v := 61) (lv' := [(1, .int 61), (0, .ref (M 0))]) hx hb dX11_image_25 hl (k := 0) rfl (by decide) (by decide) rfl (fun ls hl => ?_)
                                                                                                                            refine lv_goto (tgt := 7) hx hb dX11_image_28 (by decide) ?_
                                                                                                                            refine lv_iload_n hx hb dX11_image_7 rfl (lv_at hl 0 rfl) ?_
                                                                                                                            refine lv_bipush (v := 81) hx hb dX11_image_8 (by decide) ?_
                                                                                                                            refine lv_icmp_ge (tgt := 31) hx hb dX11_image_10 (by decide) (fun c_628 => ?_) (fun c_628 => ?_)
                                                                                                                            · exact absurd c_628 (by decide)
                                                                                                                            · refine lv_aload_n hx hb dX11_image_13 rfl (lv_at hl 1 rfl) ?_
                                                                                                                              refine q_get C h km0 fl_X11_20 (v := .ref (M 4)) rfl dX11_image_14 ?_
                                                                                                                              refine lv_iload_n hx hb dX11_image_17 rfl (lv_at hl 0 rfl) ?_
                                                                                                                              refine lv_aload_n hx hb dX11_image_18 rfl (lv_at hl 1 rfl) ?_
                                                                                                                              refine q_get C h km0 fl_X11_17 (v := .ref (M 3)) rfl dX11_image_19 ?_
                                                                                                                              refine lv_iload_n hx hb dX11_image_22 rfl (lv_at hl 0 rfl) ?_
                                                                                                                              refine q_iald C h km3 (by unfold vp_in; decide) dX11_image_23 ?_
                                                                                                                              refine lv_topi (fun x_ e_ => ?_)
                                                                                                                              obtain rfl : 0 = x_ := e_.symm
                                                                                                                              refine q_iast C h km4 (by unfold vp_in; decide) dX11_image_24 (fun H locs h => ?_)
                                                                                                                              rw [upd0] at h
                                                                                                                              rw [hu_id km4] at h
                                                                                                                              refine lv_iinc (v := 62) (lv' := [(1, .int 62), (0, .ref (M 0))]) hx hb dX11_image_25 hl (k := 0) rfl (by decide) (by decide) rfl (fun ls hl => ?_)
                                                                                                                              refine lv_goto (tgt := 7) hx hb dX11_image_28 (by decide) ?_
                                                                                                                              refine lv_iload_n hx hb dX11_image_7 rfl (lv_at hl 0 rfl) ?_
                                                                                                                              refine lv_bipush (v := 81) hx hb dX11_image_8 (by decide) ?_
                                                                                                                              refine lv_icmp_ge (tgt := 31) hx hb dX11_image_10 (by decide) (fun c_630 => ?_) (fun c_630 => ?_)
                                                                                                                              · exact absurd c_630 (by decide)
                                                                                                                              · refine lv_aload_n hx hb dX11_image_13 rfl (lv_at hl 1 rfl) ?_
                                                                                                                                refine q_get C h km0 fl_X11_20 (v := .ref (M 4)) rfl dX11_image_14 ?_
                                                                                                                                refine lv_iload_n hx hb dX11_image_17 rfl (lv_at hl 0 rfl) ?_
                                                                                                                                refine lv_aload_n hx hb dX11_image_18 rfl (lv_at hl 1 rfl) ?_
                                                                                                                                refine q_get C h km0 fl_X11_17 (v := .ref (M 3)) rfl dX11_image_19 ?_
                                                                                                                                refine lv_iload_n hx hb dX11_image_22 rfl (lv_at hl 0 rfl) ?_
                                                                                                                                refine q_iald C h km3 (by unfold vp_in; decide) dX11_image_23 ?_
                                                                                                                                refine lv_topi (fun x_ e_ => ?_)
                                                                                                                                obtain rfl : 0 = x_ := e_.symm
                                                                                                                                refine q_iast C h km4 (by unfold vp_in; decide) dX11_image_24 (fun H locs h => ?_)
                                                                                                                                rw [upd0] at h
                                                                                                                                rw [hu_id km4] at h
                                                                                                                                refine lv_iinc (v := 63) (lv' := [(1, .int 63), (0, .ref (M 0))]) hx hb dX11_image_25 hl (k := 0) rfl (by decide) (by decide) rfl (fun ls hl => ?_)
                                                                                                                                refine lv_goto (tgt := 7) hx hb dX11_image_28 (by decide) ?_
                                                                                                                                refine lv_iload_n hx hb dX11_image_7 rfl (lv_at hl 0 rfl) ?_
                                                                                                                                refine lv_bipush (v := 81) hx hb dX11_image_8 (by decide) ?_
                                                                                                                                refine lv_icmp_ge (tgt := 31) hx hb dX11_image_10 (by decide) (fun c_632 => ?_) (fun c_632 => ?_)
                                                                                                                                · exact absurd c_632 (by decide)
                                                                                                                                · refine lv_aload_n hx hb dX11_image_13 rfl (lv_at hl 1 rfl) ?_
                                                                                                                                  refine q_get C h km0 fl_X11_20 (v := .ref (M 4)) rfl dX11_image_14 ?_
                                                                                                                                  refine lv_iload_n hx hb dX11_image_17 rfl (lv_at hl 0 rfl) ?_
                                                                                                                                  refine lv_aload_n hx hb dX11_image_18 rfl (lv_at hl 1 rfl) ?_
                                                                                                                                  refine q_get C h km0 fl_X11_17 (v := .ref (M 3)) rfl dX11_image_19 ?_
                                                                                                                                  refine lv_iload_n hx hb dX11_image_22 rfl (lv_at hl 0 rfl) ?_
                                                                                                                                  refine q_iald C h km3 (by unfold vp_in; decide) dX11_image_23 ?_
                                                                                                                                  refine lv_topi (fun x_ e_ => ?_)
                                                                                                                                  obtain rfl : 0 = x_ := e_.symm
                                                                                                                                  refine q_iast C h km4 (by unfold vp_in; decide) dX11_image_24 (fun H locs h => ?_)
                                                                                                                                  rw [upd0] at h
                                                                                                                                  rw [hu_id km4] at h
                                                                                                                                  refine lv_iinc (v := 64) (lv' := [(1, .int 64), (0, .ref (M 0))]) hx hb dX11_image_25 hl (k := 0) rfl (by decide) (by decide) rfl (fun ls hl => ?_)
                                                                                                                                  refine lv_goto (tgt := 7) hx hb dX11_image_28 (by decide) ?_
                                                                                                                                  refine lv_iload_n hx hb dX11_image_7 rfl (lv_at hl 0 rfl) ?_
                                                                                                                                  refine lv_bipush (v := 81) hx hb dX11_image_8 (by decide) ?_
                                                                                                                                  refine lv_icmp_ge (tgt := 31) hx hb dX11_image_10 (by decide) (fun c_634 => ?_) (fun c_634 => ?_)
                                                                                                                                  · exact absurd c_634 (by decide)
                                                                                                                                  · refine lv_aload_n hx hb dX11_image_13 rfl (lv_at hl 1 rfl) ?_
                                                                                                                                    refine q_get C h km0 fl_X11_20 (v := .ref (M 4)) rfl dX11_image_14 ?_
                                                                                                                                    refine lv_iload_n hx hb dX11_image_17 rfl (lv_at hl 0 rfl) ?_
                                                                                                                                    refine lv_aload_n hx hb dX11_image_18 rfl (lv_at hl 1 rfl) ?_
                                                                                                                                    refine q_get C h km0 fl_X11_17 (v := .ref (M 3)) rfl dX11_image_19 ?_
                                                                                                                                    refine lv_iload_n hx hb dX11_image_22 rfl (lv_at hl 0 rfl) ?_
                                                                                                                                    refine q_iald C h km3 (by unfold vp_in; decide) dX11_image_23 ?_
                                                                                                                                    refine lv_topi (fun x_ e_ => ?_)
                                                                                                                                    obtain rfl : 0 = x_ := e_.symm
                                                                                                                                    refine q_iast C h km4 (by unfold vp_in; decide) dX11_image_24 (fun H locs h => ?_)
                                                                                                                                    rw [upd0] at h
                                                                                                                                    rw [hu_id km4] at h
                                                                                                                                    refine lv_iinc (v := 65) (lv' := [(1, .int 65), (0, .ref (M 0))]) hx hb dX11_image_25 hl (k := 0) rfl (by decide) (by decide) rfl (fun ls hl => ?_)
                                                                                                                                    refine lv_goto (tgt := 7) hx hb dX11_image_28 (by decide) ?_
                                                                                                                                    refine lv_iload_n hx hb dX11_image_7 rfl (lv_at hl 0 rfl) ?_
                                                                                                                                    refine lv_bipush (v := 81) hx hb dX11_image_8 (by decide) ?_
                                                                                                                                    refine lv_icmp_ge (tgt := 31) hx hb dX11_image_10 (by decide) (fun c_636 => ?_) (fun c_636 => ?_)
                                                                                                                                    · exact absurd c_636 (by decide)
                                                                                                                                    · refine lv_aload_n hx hb dX11_image_13 rfl (lv_at hl 1 rfl) ?_
                                                                                                                                      refine q_get C h km0 fl_X11_20 (v := .ref (M 4)) rfl dX11_image_14 ?_
                                                                                                                                      refine lv_iload_n hx hb dX11_image_17 rfl (lv_at hl 0 rfl) ?_
                                                                                                                                      refine lv_aload_n hx hb dX11_image_18 rfl (lv_at hl 1 rfl) ?_
                                                                                                                                      refine q_get C h km0 fl_X11_17 (v := .ref (M 3)) rfl dX11_image_19 ?_
                                                                                                                                      refine lv_iload_n hx hb dX11_image_22 rfl (lv_at hl 0 rfl) ?_
                                                                                                                                      refine q_iald C h km3 (by unfold vp_in; decide) dX11_image_23 ?_
                                                                                                                                      refine lv_topi (fun x_ e_ => ?_)
                                                                                                                                      obtain rfl : 0 = x_ := e_.symm
                                                                                                                                      refine q_iast C h km4 (by unfold vp_in; decide) dX11_image_24 (fun H locs h => ?_)
                                                                                                                                      rw [upd0] at h
                                                                                                                                      rw [hu_id km4] at h
                                                                                                                                      refine lv_iinc (v := 66) (lv' := [(1, .int 66), (0, .ref (M 0))]) hx hb dX11_image_25 hl (k := 0) rfl (by decide) (by decide) rfl (fun ls hl => ?_)
                                                                                                                                      refine lv_goto (tgt := 7) hx hb dX11_image_28 (by decide) ?_
                                                                                                                                      refine lv_iload_n hx hb dX11_image_7 rfl (lv_at hl 0 rfl) ?_
                                                                                                                                      refine lv_bipush (v := 81) hx hb dX11_image_8 (by decide) ?_
                                                                                                                                      refine lv_icmp_ge (tgt := 31) hx hb dX11_image_10 (by decide) (fun c_638 => ?_) (fun c_638 => ?_)
                                                                                                                                      · exact absurd c_638 (by decide)
                                                                                                                                      · refine lv_aload_n hx hb dX11_image_13 rfl (lv_at hl 1 rfl) ?_
                                                                                                                                        refine q_get C h km0 fl_X11_20 (v := .ref (M 4)) rfl dX11_image_14 ?_
                                                                                                                                        refine lv_iload_n hx hb dX11_image_17 rfl (lv_at hl 0 rfl) ?_
                                                                                                                                        refine lv_aload_n hx hb dX11_image_18 rfl (lv_at hl 1 rfl) ?_
                                                                                                                                        refine q_get C h km0 fl_X11_17 (v := .ref (M 3)) rfl dX11_image_19 ?_
                                                                                                                                        refine lv_iload_n hx hb dX11_image_22 rfl (lv_at hl 0 rfl) ?_
                                                                                                                                        refine q_iald C h km3 (by unfold vp_in; decide) dX11_image_23 ?_
                                                                                                                                        refine lv_topi (fun x_ e_ => ?_)
                                                                                                                                        obtain rfl : 0 = x_ := e_.symm
                                                                                                                                        refine q_iast C h km4 (by unfold vp_in; decide) dX11_image_24 (fun H locs h => ?_)
                                                                                                                                        rw [upd0] at h
                                                                                                                                        rw [hu_id km4] at h
                                                                                                                                        refine lv_iinc (v := 67) (lv' := [(1, .int 67), (0, .ref (M 0))]) hx hb dX11_image_25 hl (k := 0) rfl (by decide) (by decide) rfl (fun ls hl => ?_)
                                                                                                                                        refine lv_goto (tgt := 7) hx hb dX11_image_28 (by decide) ?_
                                                                                                                                        refine lv_iload_n hx hb dX11_image_7 rfl (lv_at hl 0 rfl) ?_
                                                                                                                                        refine lv_bipush (v := 81) hx hb dX11_image_8 (by decide) ?_
                                                                                                                                        refine lv_icmp_ge (tgt := 31) hx hb dX11_image_10 (by decide) (fun c_640 => ?_) (fun c_640 => ?_)
                                                                                                                                        · exact absurd c_640 (by decide)
                                                                                                                                        · refine lv_aload_n hx hb dX11_image_13 rfl (lv_at hl 1 rfl) ?_
                                                                                                                                          refine q_get C h km0 fl_X11_20 (v := .ref (M 4)) rfl dX11_image_14 ?_
                                                                                                                                          refine lv_iload_n hx hb dX11_image_17 rfl (lv_at hl 0 rfl) ?_
                                                                                                                                          refine lv_aload_n hx hb dX11_image_18 rfl (lv_at hl 1 rfl) ?_
                                                                                                                                          refine q_get C h km0 fl_X11_17 (v := .ref (M 3)) rfl dX11_image_19 ?_
                                                                                                                                          refine lv_iload_n hx hb dX11_image_22 rfl (lv_at hl 0 rfl) ?_
                                                                                                                                          refine q_iald C h km3 (by unfold vp_in; decide) dX11_image_23 ?_
                                                                                                                                          refine lv_topi (fun x_ e_ => ?_)
                                                                                                                                          obtain rfl : 0 = x_ := e_.symm
                                                                                                                                          refine q_iast C h km4 (by unfold vp_in; decide) dX11_image_24 (fun H locs h => ?_)
                                                                                                                                          rw [upd0] at h
                                                                                                                                          rw [hu_id km4] at h
                                                                                                                                          refine lv_iinc (v := 68) (lv' := [(1, .int 68), (0, .ref (M 0))]) hx hb dX11_image_25 hl (k := 0) rfl (by decide) (by decide) rfl (fun ls hl => ?_)
                                                                                                                                          refine lv_goto (tgt := 7) hx hb dX11_image_28 (by decide) ?_
                                                                                                                                          refine lv_iload_n hx hb dX11_image_7 rfl (lv_at hl 0 rfl) ?_
                                                                                                                                          refine lv_bipush (v := 81) hx hb dX11_image_8 (by decide) ?_
                                                                                                                                          refine lv_icmp_ge (tgt := 31) hx hb dX11_image_10 (by decide) (fun c_642 => ?_) (fun c_642 => ?_)
                                                                                                                                          · exact absurd c_642 (by decide)
                                                                                                                                          · refine lv_aload_n hx hb dX11_image_13 rfl (lv_at hl 1 rfl) ?_
                                                                                                                                            refine q_get C h km0 fl_X11_20 (v := .ref (M 4)) rfl dX11_image_14 ?_
                                                                                                                                            refine lv_iload_n hx hb dX11_image_17 rfl (lv_at hl 0 rfl) ?_
                                                                                                                                            refine lv_aload_n hx hb dX11_image_18 rfl (lv_at hl 1 rfl) ?_
                                                                                                                                            refine q_get C h km0 fl_X11_17 (v := .ref (M 3)) rfl dX11_image_19 ?_
                                                                                                                                            refine lv_iload_n hx hb dX11_image_22 rfl (lv_at hl 0 rfl) ?_
                                                                                                                                            refine q_iald C h km3 (by unfold vp_in; decide) dX11_image_23 ?_
                                                                                                                                            refine lv_topi (fun x_ e_ => ?_)
                                                                                                                                            obtain rfl : 0 = x_ := e_.symm
                                                                                                                                            refine q_iast C h km4 (by unfold vp_in; decide) dX11_image_24 (fun H locs h => ?_)
                                                                                                                                            rw [upd0] at h
                                                                                                                                            rw [hu_id km4] at h
                                                                                                                                            refine lv_iinc (v := 69) (lv' := [(1, .int 69), (0, .ref (M 0))]) hx hb dX11_image_25 hl (k := 0) rfl (by decide) (by decide) rfl (fun ls hl => ?_)
                                                                                                                                            refine lv_goto (tgt := 7) hx hb dX11_image_28 (by decide) ?_
                                                                                                                                            refine lv_iload_n hx hb dX11_image_7 rfl (lv_at hl 0 rfl) ?_
                                                                                                                                            refine lv_bipush (v := 81) hx hb dX11_image_8 (by decide) ?_
                                                                                                                                            refine lv_icmp_ge (tgt := 31) hx hb dX11_image_10 (by decide) (fun c_644 => ?_) (fun c_644 => ?_)
                                                                                                                                            · exact absurd c_644 (by decide)
                                                                                                                                            · refine lv_aload_n hx hb dX11_image_13 rfl (lv_at hl 1 rfl) ?_
                                                                                                                                              refine q_get C h km0 fl_X11_20 (v := .ref (M 4)) rfl dX11_image_14 ?_
                                                                                                                                              refine lv_iload_n hx hb dX11_image_17 rfl (lv_at hl 0 rfl) ?_
                                                                                                                                              refine lv_aload_n hx hb dX11_image_18 rfl (lv_at hl 1 rfl) ?_
                                                                                                                                              refine q_get C h km0 fl_X11_17 (v := .ref (M 3)) rfl dX11_image_19 ?_
                                                                                                                                              refine lv_iload_n hx hb dX11_image_22 rfl (lv_at hl 0 rfl) ?_
                                                                                                                                              refine q_iald C h km3 (by unfold vp_in; decide) dX11_image_23 ?_
                                                                                                                                              refine lv_topi (fun x_ e_ => ?_)
                                                                                                                                              obtain rfl : 0 = x_ := e_.symm
                                                                                                                                              refine q_iast C h km4 (by unfold vp_in; decide) dX11_image_24 (fun H locs h => ?_)
                                                                                                                                              rw [upd0] at h
                                                                                                                                              rw [hu_id km4] at h
                                                                                                                                              refine lv_iinc (v := 70) (lv' := [(1, .int 70), (0, .ref (M 0))]) hx hb dX11_image_25 hl (k := 0) rfl (by decide) (by decide) rfl (fun ls hl => ?_)
                                                                                                                                              refine lv_goto (tgt := 7) hx hb dX11_image_28 (by decide) ?_
                                                                                                                                              refine lv_iload_n hx hb dX11_image_7 rfl (lv_at hl 0 rfl) ?_
                                                                                                                                              refine lv_bipush (v := 81) hx hb dX11_image_8 (by decide) ?_
                                                                                                                                              refine lv_icmp_ge (tgt := 31) hx hb dX11_image_10 (by decide) (fun c_646 => ?_) (fun c_646 => ?_)
                                                                                                                                              · exact absurd c_646 (by decide)
                                                                                                                                              · refine lv_aload_n hx hb dX11_image_13 rfl (lv_at hl 1 rfl) ?_
                                                                                                                                                refine q_get C h km0 fl_X11_20 (v := .ref (M 4)) rfl dX11_image_14 ?_
                                                                                                                                                refine lv_iload_n hx hb dX11_image_17 rfl (lv_at hl 0 rfl) ?_
                                                                                                                                                refine lv_aload_n hx hb dX11_image_18 rfl (lv_at hl 1 rfl) ?_
                                                                                                                                                refine q_get C h km0 fl_X11_17 (v := .ref (M 3)) rfl dX11_image_19 ?_
                                                                                                                                                refine lv_iload_n hx hb dX11_image_22 rfl (lv_at hl 0 rfl) ?_
                                                                                                                                                refine q_iald C h km3 (by unfold vp_in; decide) dX11_image_23 ?_
                                                                                                                                                refine lv_topi (fun x_ e_ => ?_)
                                                                                                                                                obtain rfl : 0 = x_ := e_.symm
                                                                                                                                                refine q_iast C h km4 (by unfold vp_in; decide) dX11_image_24 (fun H locs h => ?_)
                                                                                                                                                rw [upd0] at h
                                                                                                                                                rw [hu_id km4] at h
                                                                                                                                                refine lv_iinc (v := 71) (lv' := [(1, .int 71), (0, .ref (M 0))]) hx hb dX11_image_25 hl (k := 0) rfl (by decide) (by decide) rfl (fun ls hl => ?_)
                                                                                                                                                refine lv_goto (tgt := 7) hx hb dX11_image_28 (by decide) ?_
                                                                                                                                                refine lv_iload_n hx hb dX11_image_7 rfl (lv_at hl 0 rfl) ?_
                                                                                                                                                refine lv_bipush (v := 81) hx hb dX11_image_8 (by decide) ?_
                                                                                                                                                refine lv_icmp_ge (tgt := 31) hx hb dX11_image_10 (by decide) (fun c_648 => ?_) (fun c_648 => ?_)
                                                                                                                                                · exact absurd c_648 (by decide)
                                                                                                                                                · refine lv_aload_n hx hb dX11_image_13 rfl (lv_at hl 1 rfl) ?_
                                                                                                                                                  refine q_get C h km0 fl_X11_20 (v := .ref (M 4)) rfl dX11_image_14 ?_
                                                                                                                                                  refine lv_iload_n hx hb dX11_image_17 rfl (lv_at hl 0 rfl) ?_
                                                                                                                                                  refine lv_aload_n hx hb dX11_image_18 rfl (lv_at hl 1 rfl) ?_
                                                                                                                                                  refine q_get C h km0 fl_X11_17 (v := .ref (M 3)) rfl dX11_image_19 ?_
                                                                                                                                                  refine lv_iload_n hx hb dX11_image_22 rfl (lv_at hl 0 rfl) ?_
                                                                                                                                                  refine q_iald C h km3 (by unfold vp_in; decide) dX11_image_23 ?_
                                                                                                                                                  refine lv_topi (fun x_ e_ => ?_)
                                                                                                                                                  obtain rfl : 0 = x_ := e_.symm
                                                                                                                                                  refine q_iast C h km4 (by unfold vp_in; decide) dX11_image_24 (fun H locs h => ?_)
                                                                                                                                                  rw [upd0] at h
                                                                                                                                                  rw [hu_id km4] at h
                                                                                                                                                  refine lv_iinc (v := 72) (lv' := [(1, .int 72), (0, .ref (M 0))]) hx hb dX11_image_25 hl (k := 0) rfl (by decide) (by decide) rfl (fun ls hl => ?_)
                                                                                                                                                  refine lv_goto (tgt := 7) hx hb dX11_image_28 (by decide) ?_
                                                                                                                                                  refine lv_iload_n hx hb dX11_image_7 rfl (lv_at hl 0 rfl) ?_
                                                                                                                                                  refine lv_bipush (v := 81) hx hb dX11_image_8 (by decide) ?_
                                                                                                                                                  refine lv_icmp_ge (tgt := 31) hx hb dX11_image_10 (by decide) (fun c_650 => ?_) (fun c_650 => ?_)
                                                                                                                                                  · exact absurd c_650 (by decide)
                                                                                                                                                  · refine lv_aload_n hx hb dX11_image_13 rfl (lv_at hl 1 rfl) ?_
                                                                                                                                                    refine q_get C h km0 fl_X11_20 (v := .ref (M 4)) rfl dX11_image_14 ?_
                                                                                                                                                    refine lv_iload_n hx hb dX11_image_17 rfl (lv_at hl 0 rfl) ?_
                                                                                                                                                    refine lv_aload_n hx hb dX11_image_18 rfl (lv_at hl 1 rfl) ?_
                                                                                                                                                    refine q_get C h km0 fl_X11_17 (v := .ref (M 3)) rfl dX11_image_19 ?_
                                                                                                                                                    refine lv_iload_n hx hb dX11_image_22 rfl (lv_at hl 0 rfl) ?_
                                                                                                                                                    refine q_iald C h km3 (by unfold vp_in; decide) dX11_image_23 ?_
                                                                                                                                                    refine lv_topi (fun x_ e_ => ?_)
                                                                                                                                                    obtain rfl : 0 = x_ := e_.symm
                                                                                                                                                    refine q_iast C h km4 (by unfold vp_in; decide) dX11_image_24 (fun H locs h => ?_)
                                                                                                                                                    rw [upd0] at h
                                                                                                                                                    rw [hu_id km4] at h
                                                                                                                                                    refine lv_iinc (v := 73) (lv' := [(1, .int 73), (0, .ref (M 0))]) hx hb dX11_image_25 hl (k := 0) rfl (by decide) (by decide) rfl (fun ls hl => ?_)
                                                                                                                                                    refine lv_goto (tgt := 7) hx hb dX11_image_28 (by decide) ?_
                                                                                                                                                    refine lv_iload_n hx hb dX11_image_7 rfl (lv_at hl 0 rfl) ?_
                                                                                                                                                    refine lv_bipush (v := 81) hx hb dX11_image_8 (by decide) ?_
                                                                                                                                                    refine lv_icmp_ge (tgt := 31) hx hb dX11_image_10 (by decide) (fun c_652 => ?_) (fun c_652 => ?_)
                                                                                                                                                    · exact absurd c_652 (by decide)
                                                                                                                                                    · refine lv_aload_n hx hb dX11_image_13 rfl (lv_at hl 1 rfl) ?_
                                                                                                                                                      refine q_get C h km0 fl_X11_20 (v := .ref (M 4)) rfl dX11_image_14 ?_
                                                                                                                                                      refine lv_iload_n hx hb dX11_image_17 rfl (lv_at hl 0 rfl) ?_
                                                                                                                                                      refine lv_aload_n hx hb dX11_image_18 rfl (lv_at hl 1 rfl) ?_
                                                                                                                                                      refine q_get C h km0 fl_X11_17 (v := .ref (M 3)) rfl dX11_image_19 ?_
                                                                                                                                                      refine lv_iload_n hx hb dX11_image_22 rfl (lv_at hl 0 rfl) ?_
                                                                                                                                                      refine q_iald C h km3 (by unfold vp_in; decide) dX11_image_23 ?_
                                                                                                                                                      refine lv_topi (fun x_ e_ => ?_)
                                                                                                                                                      obtain rfl : 0 = x_ := e_.symm
                                                                                                                                                      refine q_iast C h km4 (by unfold vp_in; decide) dX11_image_24 (fun H locs h => ?_)
                                                                                                                                                      rw [upd0] at h
                                                                                                                                                      rw [hu_id km4] at h
                                                                                                                                                      refine lv_iinc (v := 74) (lv' := [(1, .int 74), (0, .ref (M 0))]) hx hb dX11_image_25 hl (k := 0) rfl (by decide) (by decide) rfl (fun ls hl => ?_)
                                                                                                                                                      refine lv_goto (tgt := 7) hx hb dX11_image_28 (by decide) ?_
                                                                                                                                                      refine lv_iload_n hx hb dX11_image_7 rfl (lv_at hl 0 rfl) ?_
                                                                                                                                                      refine lv_bipush (v := 81) hx hb dX11_image_8 (by decide) ?_
                                                                                                                                                      refine lv_icmp_ge (tgt := 31) hx hb dX11_image_10 (by decide) (fun c_654 => ?_) (fun c_654 => ?_)
                                                                                                                                                      · exact absurd c_654 (by decide)
                                                                                                                                                      · refine lv_aload_n hx hb dX11_image_13 rfl (lv_at hl 1 rfl) ?_
                                                                                                                                                        refine q_get C h km0 fl_X11_20 (v := .ref (M 4)) rfl dX11_image_14 ?_
                                                                                                                                                        refine lv_iload_n hx hb dX11_image_17 rfl (lv_at hl 0 rfl) ?_
                                                                                                                                                        refine lv_aload_n hx hb dX11_image_18 rfl (lv_at hl 1 rfl) ?_
                                                                                                                                                        refine q_get C h km0 fl_X11_17 (v := .ref (M 3)) rfl dX11_image_19 ?_
                                                                                                                                                        refine lv_iload_n hx hb dX11_image_22 rfl (lv_at hl 0 rfl) ?_
                                                                                                                                                        refine q_iald C h km3 (by unfold vp_in; decide) dX11_image_23 ?_
                                                                                                                                                        refine lv_topi (fun x_ e_ => ?_)
                                                                                                                                                        obtain rfl : 0 = x_ := e_.symm
                                                                                                                                                        refine q_iast C h km4 (by unfold vp_in; decide) dX11_image_24 (fun H locs h => ?_)
                                                                                                                                                        rw [upd0] at h
                                                                                                                                                        rw [hu_id km4] at h
                                                                                                                                                        refine lv_iinc (v := 75) (lv' := [(1, .int 75), (0, .ref (M 0))]) hx hb dX11_image_25 hl (k := 0) rfl (by decide) (by decide) rfl (fun ls hl => ?_)
                                                                                                                                                        refine lv_goto (tgt := 7) hx hb dX11_image_28 (by decide) ?_
                                                                                                                                                        refine lv_iload_n hx hb dX11_image_7 rfl (lv_at hl 0 rfl) ?_
                                                                                                                                                        refine lv_bipush (v := 81) hx hb dX11_image_8 (by decide) ?_
                                                                                                                                                        refine lv_icmp_ge (tgt := 31) hx hb dX11_image_10 (by decide) (fun c_656 => ?_) (fun c_656 => ?_)
                                                                                                                                                        · exact absurd c_656 (by decide)
                                                                                                                                                        · refine lv_aload_n hx hb dX11_image_13 rfl (lv_at hl 1 rfl) ?_
                                                                                                                                                          refine q_get C h km0 fl_X11_20 (v := .ref (M 4)) rfl dX11_image_14 ?_
                                                                                                                                                          refine lv_iload_n hx hb dX11_image_17 rfl (lv_at hl 0 rfl) ?_
                                                                                                                                                          refine lv_aload_n hx hb dX11_image_18 rfl (lv_at hl 1 rfl) ?_
                                                                                                                                                          refine q_get C h km0 fl_X11_17 (v := .ref (M 3)) rfl dX11_image_19 ?_
                                                                                                                                                          refine lv_iload_n hx hb dX11_image_22 rfl (lv_at hl 0 rfl) ?_
                                                                                                                                                          refine q_iald C h km3 (by unfold vp_in; decide) dX11_image_23 ?_
                                                                                                                                                          refine lv_topi (fun x_ e_ => ?_)
                                                                                                                                                          obtain rfl : 0 = x_ := e_.symm
                                                                                                                                                          refine q_iast C h km4 (by unfold vp_in; decide) dX11_image_24 (fun H locs h => ?_)
                                                                                                                                                          rw [upd0] at h
                                                                                                                                                          rw [hu_id km4] at h
                                                                                                                                                          refine lv_iinc (v := 76) (lv' := [(1, .int 76), (0, .ref (M 0))]) hx hb dX11_image_25 hl (k := 0) rfl (by decide) (by decide) rfl (fun ls hl => ?_)
                                                                                                                                                          refine lv_goto (tgt := 7) hx hb dX11_image_28 (by decide) ?_
                                                                                                                                                          refine lv_iload_n hx hb dX11_image_7 rfl (lv_at hl 0 rfl) ?_
                                                                                                                                                          refine lv_bipush (v := 81) hx hb dX11_image_8 (by decide) ?_
                                                                                                                                                          refine lv_icmp_ge (tgt := 31) hx hb dX11_image_10 (by decide) (fun c_658 => ?_) (fun c_658 => ?_)
                                                                                                                                                          · exact absurd c_658 (by decide)
                                                                                                                                                          · refine lv_aload_n hx hb dX11_image_13 rfl (lv_at hl 1 rfl) ?_
                                                                                                                                                            refine q_get C h km0 fl_X11_20 (v := .ref (M 4)) rfl dX11_image_14 ?_
                                                                                                                                                            refine lv_iload_n hx hb dX11_image_17 rfl (lv_at hl 0 rfl) ?_
                                                                                                                                                            refine lv_aload_n hx hb dX11_image_18 rfl (lv_at hl 1 rfl) ?_
                                                                                                                                                            refine q_get C h km0 fl_X11_17 (v := .ref (M 3)) rfl dX11_image_19 ?_
                                                                                                                                                            refine lv_iload_n hx hb dX11_image_22 rfl (lv_at hl 0 rfl) ?_
                                                                                                                                                            refine q_iald C h km3 (by unfold vp_in; decide) dX11_image_23 ?_
                                                                                                                                                            refine lv_topi (fun x_ e_ => ?_)
                                                                                                                                                            obtain rfl : 0 = x_ := e_.symm
                                                                                                                                                            refine q_iast C h km4 (by unfold vp_in; decide) dX11_image_24 (fun H locs h => ?_)
                                                                                                                                                            rw [upd0] at h
                                                                                                                                                            rw [hu_id km4] at h
                                                                                                                                                            refine lv_iinc (v := 77) (lv' := [(1, .int 77), (0, .ref (M 0))]) hx hb dX11_image_25 hl (k := 0) rfl (by decide) (by decide) rfl (fun ls hl => ?_)
                                                                                                                                                            refine lv_goto (tgt := 7) hx hb dX11_image_28 (by decide) ?_
                                                                                                                                                            refine lv_iload_n hx hb dX11_image_7 rfl (lv_at hl 0 rfl) ?_
                                                                                                                                                            refine lv_bipush (v := 81) hx hb dX11_image_8 (by decide) ?_
                                                                                                                                                            refine lv_icmp_ge (tgt := 31) hx hb dX11_image_10 (by decide) (fun c_660 => ?_) (fun c_660 => ?_)
                                                                                                                                                            · exact absurd c_660 (by decide)
                                                                                                                                                            · refine lv_aload_n hx hb dX11_image_13 rfl (lv_at hl 1 rfl) ?_
                                                                                                                                                              refine q_get C h km0 fl_X11_20 (v := .ref (M 4)) rfl dX11_image_14 ?_
                                                                                                                                                              refine lv_iload_n hx hb dX11_image_17 rfl (lv_at hl 0 rfl) ?_
                                                                                                                                                              refine lv_aload_n hx hb dX11_image_18 rfl (lv_at hl 1 rfl) ?_
                                                                                                                                                              refine q_get C h km0 fl_X11_17 (v := .ref (M 3)) rfl dX11_image_19 ?_
                                                                                                                                                              refine lv_iload_n hx hb dX11_image_22 rfl (lv_at hl 0 rfl) ?_
                                                                                                                                                              refine q_iald C h km3 (by unfold vp_in; decide) dX11_image_23 ?_
                                                                                                                                                              refine lv_topi (fun x_ e_ => ?_)
                                                                                                                                                              obtain rfl : 0 = x_ := e_.symm
                                                                                                                                                              refine q_iast C h km4 (by unfold vp_in; decide) dX11_image_24 (fun H locs h => ?_)
                                                                                                                                                              rw [upd0] at h
                                                                                                                                                              rw [hu_id km4] at h
                                                                                                                                                              refine lv_iinc (v := 78) (lv' := [(1, .int 78), (0, .ref (M 0))]) hx hb dX11_image_25 hl (k := 0) rfl (by decide) (by decide) rfl (fun ls hl => ?_)
                                                                                                                                                              refine lv_goto (tgt := 7) hx hb dX11_image_28 (by decide) ?_
                                                                                                                                                              refine lv_iload_n hx hb dX11_image_7 rfl (lv_at hl 0 rfl) ?_
                                                                                                                                                              refine lv_bipush (v := 81) hx hb dX11_image_8 (by decide) ?_
                                                                                                                                                              refine lv_icmp_ge (tgt := 31) hx hb dX11_image_10 (by decide) (fun c_662 => ?_) (fun c_662 => ?_)
                                                                                                                                                              · exact absurd c_662 (by decide)
                                                                                                                                                              · refine lv_aload_n hx hb dX11_image_13 rfl (lv_at hl 1 rfl) ?_
                                                                                                                                                                refine q_get C h km0 fl_X11_20 (v := .ref (M 4)) rfl dX11_image_14 ?_
                                                                                                                                                                refine lv_iload_n hx hb dX11_image_17 rfl (lv_at hl 0 rfl) ?_
                                                                                                                                                                refine lv_aload_n hx hb dX11_image_18 rfl (lv_at hl 1 rfl) ?_
                                                                                                                                                                refine q_get C h km0 fl_X11_17 (v := .ref (M 3)) rfl dX11_image_19 ?_
                                                                                                                                                                refine lv_iload_n hx hb dX11_image_22 rfl (lv_at hl 0 rfl) ?_
                                                                                                                                                                refine q_iald C h km3 (by unfold vp_in; decide) dX11_image_23 ?_
                                                                                                                                                                refine lv_topi (fun x_ e_ => ?_)
                                                                                                                                                                obtain rfl : 0 = x_ := e_.symm
                                                                                                                                                                refine q_iast C h km4 (by unfold vp_in; decide) dX11_image_24 (fun H locs h => ?_)
                                                                                                                                                                rw [upd0] at h
                                                                                                                                                                rw [hu_id km4] at h
                                                                                                                                                                refine lv_iinc (v := 79) (lv' := [(1, .int 79), (0, .ref (M 0))]) hx hb dX11_image_25 hl (k := 0) rfl (by decide) (by decide) rfl (fun ls hl => ?_)
                                                                                                                                                                refine lv_goto (tgt := 7) hx hb dX11_image_28 (by decide) ?_
                                                                                                                                                                refine lv_iload_n hx hb dX11_image_7 rfl (lv_at hl 0 rfl) ?_
                                                                                                                                                                refine lv_bipush (v := 81) hx hb dX11_image_8 (by decide) ?_
                                                                                                                                                                refine lv_icmp_ge (tgt := 31) hx hb dX11_image_10 (by decide) (fun c_664 => ?_) (fun c_664 => ?_)
                                                                                                                                                                · exact absurd c_664 (by decide)
                                                                                                                                                                · refine lv_aload_n hx hb dX11_image_13 rfl (lv_at hl 1 rfl) ?_
                                                                                                                                                                  refine q_get C h km0 fl_X11_20 (v := .ref (M 4)) rfl dX11_image_14 ?_
                                                                                                                                                                  refine lv_iload_n hx hb dX11_image_17 rfl (lv_at hl 0 rfl) ?_
                                                                                                                                                                  refine lv_aload_n hx hb dX11_image_18 rfl (lv_at hl 1 rfl) ?_
                                                                                                                                                                  refine q_get C h km0 fl_X11_17 (v := .ref (M 3)) rfl dX11_image_19 ?_
                                                                                                                                                                  refine lv_iload_n hx hb dX11_image_22 rfl (lv_at hl 0 rfl) ?_
                                                                                                                                                                  refine q_iald C h km3 (by unfold vp_in; decide) dX11_image_23 ?_
                                                                                                                                                                  refine lv_topi (fun x_ e_ => ?_)
                                                                                                                                                                  obtain rfl : 0 = x_ := e_.symm
                                                                                                                                                                  refine q_iast C h km4 (by unfold vp_in; decide) dX11_image_24 (fun H locs h => ?_)
                                                                                                                                                                  rw [upd0] at h
                                                                                                                                                                  rw [hu_id km4] at h
                                                                                                                                                                  refine lv_iinc (v := 80) (lv' := [(1, .int 80), (0, .ref (M 0))]) hx hb dX11_image_25 hl (k := 0) rfl (by decide) (by decide) rfl (fun ls hl => ?_)
                                                                                                                                                                  refine lv_goto (tgt := 7) hx hb dX11_image_28 (by decide) ?_
                                                                                                                                                                  refine lv_iload_n hx hb dX11_image_7 rfl (lv_at hl 0 rfl) ?_
                                                                                                                                                                  refine lv_bipush (v := 81) hx hb dX11_image_8 (by decide) ?_
                                                                                                                                                                  refine lv_icmp_ge (tgt := 31) hx hb dX11_image_10 (by decide) (fun c_666 => ?_) (fun c_666 => ?_)
                                                                                                                                                                  · exact absurd c_666 (by decide)
                                                                                                                                                                  · refine lv_aload_n hx hb dX11_image_13 rfl (lv_at hl 1 rfl) ?_
                                                                                                                                                                    refine q_get C h km0 fl_X11_20 (v := .ref (M 4)) rfl dX11_image_14 ?_
                                                                                                                                                                    refine lv_iload_n hx hb dX11_image_17 rfl (lv_at hl 0 rfl) ?_
                                                                                                                                                                    refine lv_aload_n hx hb dX11_image_18 rfl (lv_at hl 1 rfl) ?_
                                                                                                                                                                    refine q_get C h km0 fl_X11_17 (v := .ref (M 3)) rfl dX11_image_19 ?_
                                                                                                                                                                    refine lv_iload_n hx hb dX11_image_22 rfl (lv_at hl 0 rfl) ?_
                                                                                                                                                                    refine q_iald C h km3 (by unfold vp_in; decide) dX11_image_23 ?_
                                                                                                                                                                    refine lv_topi (fun x_ e_ => ?_)
                                                                                                                                                                    obtain rfl : 0 = x_ := e_.symm
                                                                                                                                                                    refine q_iast C h km4 (by unfold vp_in; decide) dX11_image_24 (fun H locs h => ?_)
                                                                                                                                                                    rw [upd0] at h
                                                                                                                                                                    rw [hu_id km4] at h
                                                                                                                                                                    refine lv_iinc (v := 81) (lv' := [(1, .int 81), (0, .ref (M 0))]) hx hb dX11_image_25 hl (k := 0) rfl (by decide) (by decide) rfl (fun ls hl => ?_)
                                                                                                                                                                    refine lv_goto (tgt := 7) hx hb dX11_image_28 (by decide) ?_
                                                                                                                                                                    refine lv_iload_n hx hb dX11_image_7 rfl (lv_at hl 0 rfl) ?_
                                                                                                                                                                    refine lv_bipush (v := 81) hx hb dX11_image_8 (by decide) ?_
                                                                                                                                                                    refine lv_icmp_ge (tgt := 31) hx hb dX11_image_10 (by decide) (fun c_668 => ?_) (fun c_668 => ?_)
                                                                                                                                                                    · refine lv_aload_n hx hb dX11_image_31 rfl (lv_at hl 1 rfl) ?_
                                                                                                                                                                      refine lv_iconst (v := 1) hx hb dX11_image_32 (by decide) ?_
                                                                                                                                                                      refine q_put C h km0 flw_X11_437 (Or.inr ⟨_, _, _, rfl, rfl⟩) (v := .int 1) rfl rfl (Nat.le_of_ble_eq_true rfl) dX11_image_33 (fun H locs h => ?_)
                                                                                                                                                                      have h : hw D b0 s.heap (hu f (M 0) (.inr (12, [.int 0, .ref (M 1), .int 0, .int 0, .int 0, .ref (M 2), .ref (M 3), .ref (M 4), .ref (M 5), .ref (M 6), .int 0, .int 1, .ref (M 7), .ref (M 8), .int 0, .ref (M 9), .ref (M 10), .ref (M 11), .long 0, .ref (M 12), .ref (M 13), .ref (M 14), .ref (M 15), .ref (M 16), .ref (M 17), .ref (M 18), .ref (M 19), .int 0, .int 0, .ref (M 20), .ref (M 21), .int 0]))) H locs := h
                                                                                                                                                                      generalize ef_669 : hu f (M 0) (.inr (12, [.int 0, .ref (M 1), .int 0, .int 0, .int 0, .ref (M 2), .ref (M 3), .ref (M 4), .ref (M 5), .ref (M 6), .int 0, .int 1, .ref (M 7), .ref (M 8), .int 0, .ref (M 9), .ref (M 10), .ref (M 11), .long 0, .ref (M 12), .ref (M 13), .ref (M 14), .ref (M 15), .ref (M 16), .ref (M 17), .ref (M 18), .ref (M 19), .int 0, .int 0, .ref (M 20), .ref (M 21), .int 0])) = f_669 at h
                                                                                                                                                                      have k_670 : f_669 (M 1) = some (.inl (G 0, 200, .inl (fun _ => 0))) := by rw [← ef_669]; exact hu_at km1 (hne (4, 12) (1, 200) km0 km1 rfl rfl (by decide))
                                                                                                                                                                      have k_671 : f_669 (M 2) = some (.inl (G 1, 10, .inl (fun _ => 0))) := by rw [← ef_669]; exact hu_at km2 (hne (4, 12) (1, 10) km0 km2 rfl rfl (by decide))
                                                                                                                                                                      have k_672 : f_669 (M 3) = some (.inl (G 1, 81, .inl (fun _ => 0))) := by rw [← ef_669]; exact hu_at km3 (hne (4, 12) (1, 81) km0 km3 rfl rfl (by decide))
                                                                                                                                                                      have k_673 : f_669 (M 4) = some (.inl (G 1, 81, .inl (fun _ => 0))) := by rw [← ef_669]; exact hu_at km4 (hne (4, 12) (1, 81) km0 km4 rfl rfl (by decide))
                                                                                                                                                                      have k_674 : f_669 (M 6) = some (.inl (G 1, 4, .inl (fun _ => 0))) := by rw [← ef_669]; exact hu_at km5 (hne (4, 12) (1, 4) km0 km5 rfl rfl (by decide))
                                                                                                                                                                      have k_675 : f_669 (M 0) = some (.inr (12, [.int 0, .ref (M 1), .int 0, .int 0, .int 0, .ref (M 2), .ref (M 3), .ref (M 4), .ref (M 5), .ref (M 6), .int 0, .int 1, .ref (M 7), .ref (M 8), .int 0, .ref (M 9), .ref (M 10), .ref (M 11), .long 0, .ref (M 12), .ref (M 13), .ref (M 14), .ref (M 15), .ref (M 16), .ref (M 17), .ref (M 18), .ref (M 19), .int 0, .int 0, .ref (M 20), .ref (M 21), .int 0])) := by rw [← ef_669]; exact hu_self _ _ _
                                                                                                                                                                      refine lv_aload_n hx hb dX11_image_36 rfl (lv_at hl 1 rfl) ?_
                                                                                                                                                                      refine q_get C h k_675 fl_X11_17 (v := .ref (M 3)) rfl dX11_image_37 ?_
                                                                                                                                                                      refine lv_bipush (v := 80) hx hb dX11_image_40 (by decide) ?_
                                                                                                                                                                      refine q_iald C h k_672 (by unfold vp_in; decide) dX11_image_42 ?_
                                                                                                                                                                      refine lv_topi (fun x_ e_ => ?_)
                                                                                                                                                                      obtain rfl : 0 = x_ := e_.symm
                                                                                                                                                                      exact q_iret C h hr (rfl) (Nat.le_of_ble_eq_true rfl) (Nat.le_of_ble_eq_true rfl) dX11_image_43
                                                                                                                                                                    · exact absurd c_668 (by decide)
set_option maxRecDepth 100000 in
set_option maxHeartbeats 4000000 in
theorem c_X11_end (l : Launch) (D : va_G) (G : Nat → Nat) (b0 : Nat) (f : hM) (M : Nat → Nat) (hM : mw G f M) (p0 : Int32) : mI l yX11_end cX11_end 2 (.boolean) { frames := 0, cells := 0, slots := 0, locals := 0 } D G b0 f [.ref (M 0), .int p0] (fun r f1 => (wi p0 0 0 : Int32) = r) := by
  refine met_of (own := RX11) (by decide) rfl (Nat.le_of_ble_eq_true rfl) ?_
  intro p e s m below meth c ls C hr hini hl h
  have hl : lv_has ls 2 [(0, .ref (M 0)), (1, .int p0)] := hl
  obtain ⟨hx, hb, hml, hown, hts, hE0, hlk⟩ := id C
  obtain ⟨km0, km1, km2, km3, km4, km5⟩ := hM
  refine lv_aload_n hx hb dX11_end_0 rfl (lv_at hl 0 rfl) ?_
  refine lv_iconst (v := 0) hx hb dX11_end_1 (by decide) ?_
  refine q_put C h km0 flw_X11_75 (Or.inr ⟨_, _, _, rfl, rfl⟩) (v := .int 0) rfl rfl (Nat.le_of_ble_eq_true rfl) dX11_end_2 (fun H locs h => ?_)
  have h : hw D b0 s.heap (hu f (M 0) (.inr (12, [.int 0, .ref (M 1), .int 0, .int 0, .int 0, .ref (M 2), .ref (M 3), .ref (M 4), .ref (M 5), .ref (M 6), .int 0, .int 0, .ref (M 7), .ref (M 8), .int 0, .ref (M 9), .ref (M 10), .ref (M 11), .long 0, .ref (M 12), .ref (M 13), .ref (M 14), .ref (M 15), .ref (M 16), .ref (M 17), .ref (M 18), .ref (M 19), .int 0, .int 0, .ref (M 20), .ref (M 21), .int 0]))) H locs := h
  rw [hu_id km0] at h
  refine lv_iload_n hx hb dX11_end_5 rfl (lv_at hl 1 rfl) ?_
  refine lv_if_lt (tgt := 17) hx hb dX11_end_6 (by decide) (fun c_676 => ?_) (fun c_676 => ?_)
  · refine lv_iconst (v := 0) hx hb dX11_end_17 (by decide) ?_
    exact q_zret C h hr (Or.inl rfl) (by simp [wi, c_676]) (Nat.le_of_ble_eq_true rfl) (Nat.le_of_ble_eq_true rfl) dX11_end_18
  · refine lv_iload_n hx hb dX11_end_9 rfl (lv_at hl 1 rfl) ?_
    refine lv_aload_n hx hb dX11_end_10 rfl (lv_at hl 0 rfl) ?_
    refine q_get C h km0 fl_X11_79 (v := .int 0) rfl dX11_end_11 ?_
    refine lv_icmp_le (tgt := 19) hx hb dX11_end_14 (by decide) (fun c_677 => ?_) (fun c_677 => ?_)
    · refine lv_aload_n hx hb dX11_end_19 rfl (lv_at hl 0 rfl) ?_
      refine lv_iload_n hx hb dX11_end_20 rfl (lv_at hl 1 rfl) ?_
      refine q_put C h km0 flw_X11_79 (Or.inr ⟨_, _, _, rfl, rfl⟩) (v := .int p0) rfl rfl (Nat.le_of_ble_eq_true rfl) dX11_end_21 (fun H locs h => ?_)
      have h : hw D b0 s.heap (hu f (M 0) (.inr (12, [.int 0, .ref (M 1), .int p0, .int 0, .int 0, .ref (M 2), .ref (M 3), .ref (M 4), .ref (M 5), .ref (M 6), .int 0, .int 0, .ref (M 7), .ref (M 8), .int 0, .ref (M 9), .ref (M 10), .ref (M 11), .long 0, .ref (M 12), .ref (M 13), .ref (M 14), .ref (M 15), .ref (M 16), .ref (M 17), .ref (M 18), .ref (M 19), .int 0, .int 0, .ref (M 20), .ref (M 21), .int 0]))) H locs := h
      generalize ef_678 : hu f (M 0) (.inr (12, [.int 0, .ref (M 1), .int p0, .int 0, .int 0, .ref (M 2), .ref (M 3), .ref (M 4), .ref (M 5), .ref (M 6), .int 0, .int 0, .ref (M 7), .ref (M 8), .int 0, .ref (M 9), .ref (M 10), .ref (M 11), .long 0, .ref (M 12), .ref (M 13), .ref (M 14), .ref (M 15), .ref (M 16), .ref (M 17), .ref (M 18), .ref (M 19), .int 0, .int 0, .ref (M 20), .ref (M 21), .int 0])) = f_678 at h
      have k_679 : f_678 (M 1) = some (.inl (G 0, 200, .inl (fun _ => 0))) := by rw [← ef_678]; exact hu_at km1 (hne (4, 12) (1, 200) km0 km1 rfl rfl (by decide))
      have k_680 : f_678 (M 2) = some (.inl (G 1, 10, .inl (fun _ => 0))) := by rw [← ef_678]; exact hu_at km2 (hne (4, 12) (1, 10) km0 km2 rfl rfl (by decide))
      have k_681 : f_678 (M 3) = some (.inl (G 1, 81, .inl (fun _ => 0))) := by rw [← ef_678]; exact hu_at km3 (hne (4, 12) (1, 81) km0 km3 rfl rfl (by decide))
      have k_682 : f_678 (M 4) = some (.inl (G 1, 81, .inl (fun _ => 0))) := by rw [← ef_678]; exact hu_at km4 (hne (4, 12) (1, 81) km0 km4 rfl rfl (by decide))
      have k_683 : f_678 (M 6) = some (.inl (G 1, 4, .inl (fun _ => 0))) := by rw [← ef_678]; exact hu_at km5 (hne (4, 12) (1, 4) km0 km5 rfl rfl (by decide))
      have k_684 : f_678 (M 0) = some (.inr (12, [.int 0, .ref (M 1), .int p0, .int 0, .int 0, .ref (M 2), .ref (M 3), .ref (M 4), .ref (M 5), .ref (M 6), .int 0, .int 0, .ref (M 7), .ref (M 8), .int 0, .ref (M 9), .ref (M 10), .ref (M 11), .long 0, .ref (M 12), .ref (M 13), .ref (M 14), .ref (M 15), .ref (M 16), .ref (M 17), .ref (M 18), .ref (M 19), .int 0, .int 0, .ref (M 20), .ref (M 21), .int 0])) := by rw [← ef_678]; exact hu_self _ _ _
      refine lv_iconst (v := 1) hx hb dX11_end_24 (by decide) ?_
      exact q_zret C h hr (Or.inr rfl) (by simp [wi, c_676, c_677]) (Nat.le_of_ble_eq_true rfl) (Nat.le_of_ble_eq_true rfl) dX11_end_25
    · refine lv_iconst (v := 0) hx hb dX11_end_17 (by decide) ?_
      exact q_zret C h hr (Or.inl rfl) (by simp [wi, c_676, c_677]) (Nat.le_of_ble_eq_true rfl) (Nat.le_of_ble_eq_true rfl) dX11_end_18
set_option maxRecDepth 100000 in
set_option maxHeartbeats 4000000 in
theorem c_X11_count (l : Launch) (D : va_G) (G : Nat → Nat) (b0 : Nat) (f : hM) (M : Nat → Nat) (hM : mw G f M) (p0 : Int32) : mI l yX11_count cX11_count 2 (.int) { frames := 0, cells := 0, slots := 0, locals := 0 } D G b0 f [.ref (M 0), .int p0] (fun r f1 => (Vcount p0 : Int32) = r) := by
  refine met_of (own := RX11) (by decide) rfl (Nat.le_of_ble_eq_true rfl) ?_
  intro p e s m below meth c ls C hr hini hl h
  have hl : lv_has ls 2 [(0, .ref (M 0)), (1, .int p0)] := hl
  obtain ⟨hx, hb, hml, hown, hts, hE0, hlk⟩ := id C
  obtain ⟨km0, km1, km2, km3, km4, km5⟩ := hM
  refine lv_aload_n hx hb dX11_count_0 rfl (lv_at hl 0 rfl) ?_
  refine lv_iconst (v := 0) hx hb dX11_count_1 (by decide) ?_
  refine q_put C h km0 flw_X11_75 (Or.inr ⟨_, _, _, rfl, rfl⟩) (v := .int 0) rfl rfl (Nat.le_of_ble_eq_true rfl) dX11_count_2 (fun H locs h => ?_)
  have h : hw D b0 s.heap (hu f (M 0) (.inr (12, [.int 0, .ref (M 1), .int 0, .int 0, .int 0, .ref (M 2), .ref (M 3), .ref (M 4), .ref (M 5), .ref (M 6), .int 0, .int 0, .ref (M 7), .ref (M 8), .int 0, .ref (M 9), .ref (M 10), .ref (M 11), .long 0, .ref (M 12), .ref (M 13), .ref (M 14), .ref (M 15), .ref (M 16), .ref (M 17), .ref (M 18), .ref (M 19), .int 0, .int 0, .ref (M 20), .ref (M 21), .int 0]))) H locs := h
  rw [hu_id km0] at h
  refine lv_iload_n hx hb dX11_count_5 rfl (lv_at hl 1 rfl) ?_
  refine lv_if_ne (tgt := 16) hx hb dX11_count_6 (by decide) (fun c_685 => ?_) (fun c_685 => ?_)
  · refine lv_iload_n hx hb dX11_count_16 rfl (lv_at hl 1 rfl) ?_
    refine lv_iconst (v := 1) hx hb dX11_count_17 (by decide) ?_
    refine lv_icmp_ne (tgt := 28) hx hb dX11_count_18 (by decide) (fun c_686 => ?_) (fun c_686 => ?_)
    · refine lv_iload_n hx hb dX11_count_28 rfl (lv_at hl 1 rfl) ?_
      refine lv_iconst (v := 2) hx hb dX11_count_29 (by decide) ?_
      refine lv_icmp_ne (tgt := 43) hx hb dX11_count_30 (by decide) (fun c_687 => ?_) (fun c_687 => ?_)
      · refine lv_iconst (v := -1) hx hb dX11_count_43 (by decide) ?_
        exact q_iret C h hr (by simp [Vcount, c_685, c_686, c_687]) (Nat.le_of_ble_eq_true rfl) (Nat.le_of_ble_eq_true rfl) dX11_count_44
      · refine lv_aload_n hx hb dX11_count_33 rfl (lv_at hl 0 rfl) ?_
        refine q_get C h km0 fl_X11_17 (v := .ref (M 3)) rfl dX11_count_34 ?_
        refine lv_bipush (v := 80) hx hb dX11_count_37 (by decide) ?_
        refine q_iald C h km3 (by unfold vp_in; decide) dX11_count_39 ?_
        refine lv_topi (fun x_ e_ => ?_)
        obtain rfl : 0 = x_ := e_.symm
        refine lv_goto (tgt := 44) hx hb dX11_count_40 (by decide) ?_
        exact q_iret C h hr (by simp [Vcount, c_685, c_686, c_687]) (Nat.le_of_ble_eq_true rfl) (Nat.le_of_ble_eq_true rfl) dX11_count_44
    · refine lv_aload_n hx hb dX11_count_21 rfl (lv_at hl 0 rfl) ?_
      refine q_get C h km0 fl_X11_155 (v := .int 0) rfl dX11_count_22 ?_
      refine lv_goto (tgt := 44) hx hb dX11_count_25 (by decide) ?_
      exact q_iret C h hr (by simp [Vcount, c_685, c_686]) (Nat.le_of_ble_eq_true rfl) (Nat.le_of_ble_eq_true rfl) dX11_count_44
  · refine lv_aload_n hx hb dX11_count_9 rfl (lv_at hl 0 rfl) ?_
    refine q_get C h km0 fl_X11_79 (v := .int 0) rfl dX11_count_10 ?_
    refine lv_goto (tgt := 44) hx hb dX11_count_13 (by decide) ?_
    exact q_iret C h hr (by simp [Vcount, c_685]) (Nat.le_of_ble_eq_true rfl) (Nat.le_of_ble_eq_true rfl) dX11_count_44
set_option maxRecDepth 100000 in
set_option maxHeartbeats 4000000 in
theorem c_X11_most (l : Launch) (D : va_G) (G : Nat → Nat) (b0 : Nat) (f : hM) (M : Nat → Nat) (hM : mw G f M) (p0 : Int32) : mI l yX11_most cX11_most 4 (.int) { frames := 1, cells := 0, slots := 0, locals := 24 } D G b0 f [.ref (M 0), .int p0] (fun r f1 => (Vmost p0 : Int32) = r) := by
  refine met_of (own := RX11) (by decide) rfl (Nat.le_of_ble_eq_true rfl) ?_
  intro p e s m below meth c ls C hr hini hl h
  have hl : lv_has ls 4 [(0, .ref (M 0)), (1, .int p0)] := hl
  obtain ⟨hx, hb, hml, hown, hts, hE0, hlk⟩ := id C
  obtain ⟨km0, km1, km2, km3, km4, km5⟩ := hM
  refine lv_aload_n hx hb dX11_most_0 rfl (lv_at hl 0 rfl) ?_
  refine lv_iconst (v := 0) hx hb dX11_most_1 (by decide) ?_
  refine q_put C h km0 flw_X11_75 (Or.inr ⟨_, _, _, rfl, rfl⟩) (v := .int 0) rfl rfl (Nat.le_of_ble_eq_true rfl) dX11_most_2 (fun H locs h => ?_)
  have h : hw D b0 s.heap (hu f (M 0) (.inr (12, [.int 0, .ref (M 1), .int 0, .int 0, .int 0, .ref (M 2), .ref (M 3), .ref (M 4), .ref (M 5), .ref (M 6), .int 0, .int 0, .ref (M 7), .ref (M 8), .int 0, .ref (M 9), .ref (M 10), .ref (M 11), .long 0, .ref (M 12), .ref (M 13), .ref (M 14), .ref (M 15), .ref (M 16), .ref (M 17), .ref (M 18), .ref (M 19), .int 0, .int 0, .ref (M 20), .ref (M 21), .int 0]))) H locs := h
  rw [hu_id km0] at h
  refine lv_iload_n hx hb dX11_most_5 rfl (lv_at hl 1 rfl) ?_
  refine lv_iconst (v := 3) hx hb dX11_most_6 (by decide) ?_
  refine lv_icmp_ne (tgt := 15) hx hb dX11_most_7 (by decide) (fun c_688 => ?_) (fun c_688 => ?_)
  · refine lv_aload_n hx hb dX11_most_15 rfl (lv_at hl 0 rfl) ?_
    refine q_get C h km0 fl_X11_17 (v := .ref (M 3)) rfl dX11_most_16 ?_
    refine lv_bipush (v := 80) hx hb dX11_most_19 (by decide) ?_
    refine q_iald C h km3 (by unfold vp_in; decide) dX11_most_21 ?_
    refine lv_topi (fun x_ e_ => ?_)
    obtain rfl : 0 = x_ := e_.symm
    refine lv_if_eq (tgt := 37) hx hb dX11_most_22 (by decide) (fun c_689 => ?_) (fun c_689 => ?_)
    · refine lv_iconst (v := -1) hx hb dX11_most_37 (by decide) ?_
      exact q_iret C h hr (by simp [Vmost, c_688, c_689]) (Nat.le_of_ble_eq_true rfl) (Nat.le_of_ble_eq_true rfl) dX11_most_38
    · exact absurd c_689 (by decide)
  · refine lv_aload_n hx hb dX11_most_10 rfl (lv_at hl 0 rfl) ?_
    refine k_i (r_V C h hl (As := []) (rest := []) (c_X11_unlike l D G b0 f M ⟨km0, km1, km2, km3, km4, km5⟩ ) km0 (Cn := RX11) (T := TX11) (N := 32) rfl rfl mk_X11_unlike w_2042 w_2044 w_91 w_2045 ⟨Nat.le_of_ble_eq_true rfl, Nat.le_of_ble_eq_true rfl⟩ rfl (Nat.le_of_ble_eq_true rfl) ⟨Nat.le_of_ble_eq_true rfl, Nat.le_of_ble_eq_true rfl⟩ rfl dX11_most_11) h (fun r_690 f_691 H locs p_692 h => ?_)
    obtain ⟨e_, rfl⟩ := p_692
    subst e_
    exact q_iret C h hr (by simp [Vmost, c_688]) (Nat.le_of_ble_eq_true rfl) (Nat.le_of_ble_eq_true rfl) dX11_most_14
set_option maxRecDepth 100000 in
set_option maxHeartbeats 4000000 in
theorem c_X11_status (l : Launch) (D : va_G) (G : Nat → Nat) (b0 : Nat) (f : hM) (M : Nat → Nat) (hM : mw G f M) (p0 : Int32) : mI l yX11_status cX11_status 2 (.int) { frames := 1, cells := 0, slots := 0, locals := 25 } D G b0 f [.ref (M 0), .int p0] (fun r f1 => (Vstatus p0 : Int32) = r) := by
  refine met_of (own := RX11) (by decide) rfl (Nat.le_of_ble_eq_true rfl) ?_
  intro p e s m below meth c ls C hr hini hl h
  have hl : lv_has ls 2 [(0, .ref (M 0)), (1, .int p0)] := hl
  obtain ⟨hx, hb, hml, hown, hts, hE0, hlk⟩ := id C
  obtain ⟨km0, km1, km2, km3, km4, km5⟩ := hM
  refine lv_aload_n hx hb dX11_status_0 rfl (lv_at hl 0 rfl) ?_
  refine lv_iconst (v := 0) hx hb dX11_status_1 (by decide) ?_
  refine q_put C h km0 flw_X11_75 (Or.inr ⟨_, _, _, rfl, rfl⟩) (v := .int 0) rfl rfl (Nat.le_of_ble_eq_true rfl) dX11_status_2 (fun H locs h => ?_)
  have h : hw D b0 s.heap (hu f (M 0) (.inr (12, [.int 0, .ref (M 1), .int 0, .int 0, .int 0, .ref (M 2), .ref (M 3), .ref (M 4), .ref (M 5), .ref (M 6), .int 0, .int 0, .ref (M 7), .ref (M 8), .int 0, .ref (M 9), .ref (M 10), .ref (M 11), .long 0, .ref (M 12), .ref (M 13), .ref (M 14), .ref (M 15), .ref (M 16), .ref (M 17), .ref (M 18), .ref (M 19), .int 0, .int 0, .ref (M 20), .ref (M 21), .int 0]))) H locs := h
  rw [hu_id km0] at h
  refine lv_iload_n hx hb dX11_status_5 rfl (lv_at hl 1 rfl) ?_
  refine lv_i2l (v := Int32.toInt64 p0) hx hb dX11_status_6 rfl ?_
  refine lv_lconst (v := 0) hx hb dX11_status_7 (by decide) ?_
  refine lv_ldc2 (v := 3) hx hb hown (hts _ w_1944) dX11_status_8 ?_
  refine k_i (r_S C h hl (As := [.long (Int32.toInt64 p0), .long 0, .long 3]) (rest := []) (c_X11_isIn l D G b0 f  (Int32.toInt64 p0) 0 3) mk_X11_isIn w_1628 w_1629 w_1630 ⟨Nat.le_of_ble_eq_true rfl, Nat.le_of_ble_eq_true rfl⟩ rfl (Nat.le_of_ble_eq_true rfl) ⟨Nat.le_of_ble_eq_true rfl, Nat.le_of_ble_eq_true rfl⟩ rfl dX11_status_11) h (fun r_693 f_694 H locs p_695 h => ?_)
  obtain ⟨e_, rfl⟩ := p_695
  subst e_
  refine lv_if_eq (tgt := 26) hx hb dX11_status_14 (by decide) (fun c_696 => ?_) (fun c_696 => ?_)
  · refine lv_iconst (v := -1) hx hb dX11_status_26 (by decide) ?_
    exact q_iret C h hr (Vstatus_no c_696) (Nat.le_of_ble_eq_true rfl) (Nat.le_of_ble_eq_true rfl) dX11_status_27
  · refine lv_aload_n hx hb dX11_status_17 rfl (lv_at hl 0 rfl) ?_
    refine q_get C h km0 fl_X11_26 (v := .ref (M 6)) rfl dX11_status_18 ?_
    refine lv_iload_n hx hb dX11_status_21 rfl (lv_at hl 1 rfl) ?_
    refine q_iald C h km5 (vp_wl c_696) dX11_status_22 ?_
    refine lv_topi (fun x_ e_ => ?_)
    obtain rfl : 0 = x_ := e_.symm
    refine lv_goto (tgt := 27) hx hb dX11_status_23 (by decide) ?_
    exact q_iret C h hr (Vstatus_yes c_696) (Nat.le_of_ble_eq_true rfl) (Nat.le_of_ble_eq_true rfl) dX11_status_27
end
section


theorem Vmost_x {p : Int32} (h : wi p 0 4 = 0) : Vmost p = -1 := by
  unfold Vmost
  rw [if_neg]
  intro e
  rw [e] at h
  exact absurd h (by decide)
theorem Vcount_x {p : Int32} (h : p.toInt < 0 ∨ 2 < p.toInt) : Vcount p = -1 := by
  unfold Vcount
  have n0 : p ≠ 0 := fun e => by rw [e] at h; exact absurd h (by decide)
  have n1 : p ≠ 1 := fun e => by rw [e] at h; exact absurd h (by decide)
  have n2 : p ≠ 2 := fun e => by rw [e] at h; exact absurd h (by decide)
  rw [if_neg n0, if_neg n1, if_neg n2]
set_option maxRecDepth 100000 in
set_option maxHeartbeats 4000000 in
theorem c_J7_fill_53178 (l : Launch) (D : va_G) (G : Nat → Nat) (b0 : Nat) (f : hM) (X : Nat → Nat) (hX : xw G f X) : mV l yJ7_fill_53178 cJ7_fill_53178 4 { frames := 0, cells := 0, slots := 0, locals := 0 } D G b0 f [.ref (X 12), .int 0] (fun f1 => f = f1) := by
  refine met_of (own := RJ7) (by decide) rfl (Nat.le_of_ble_eq_true rfl) ?_
  intro p e s m below meth c ls C hr hini hl h
  have hl : lv_has ls 4 [(0, .ref (X 12)), (1, .int 0)] := hl
  obtain ⟨hx, hb, hml, hown, hts, hE0, hlk⟩ := id C
  obtain ⟨kx0, kx1, kx2, kx3, kx4, kx5, kx6, kx7, kx8, kx9⟩ := hX
  refine lv_iconst (v := 0) hx hb dJ7_fill_53178_0 (by decide) ?_
  refine lv_istore_n (lv' := [(2, .int 0), (0, .ref (X 12)), (1, .int 0)]) hx hb dJ7_fill_53178_1 rfl hl (by decide) rfl (fun ls hl => ?_)
  refine lv_aload_n hx hb dJ7_fill_53178_2 rfl (lv_at hl 1 rfl) ?_
  refine q_alen C h 1 rfl kx5 (v := 8) rfl dJ7_fill_53178_3 ?_
  refine lv_istore_n (lv' := [(3, .int 8), (2, .int 0), (0, .ref (X 12)), (1, .int 0)]) hx hb dJ7_fill_53178_4 rfl hl (by decide) rfl (fun ls hl => ?_)
  refine lv_iload_n hx hb dJ7_fill_53178_5 rfl (lv_at hl 1 rfl) ?_
  refine lv_iload_n hx hb dJ7_fill_53178_6 rfl (lv_at hl 0 rfl) ?_
  refine lv_icmp_ge (tgt := 20) hx hb dJ7_fill_53178_7 (by decide) (fun c_697 => ?_) (fun c_697 => ?_)
  · exact absurd c_697 (by decide)
  · refine lv_aload_n hx hb dJ7_fill_53178_10 rfl (lv_at hl 2 rfl) ?_
    refine lv_iload_n hx hb dJ7_fill_53178_11 rfl (lv_at hl 1 rfl) ?_
    refine lv_iload_n hx hb dJ7_fill_53178_12 rfl (lv_at hl 3 rfl) ?_
    refine q_iast C h kx5 (by unfold vp_in; decide) dJ7_fill_53178_13 (fun H locs h => ?_)
    rw [upd0] at h
    rw [hu_id kx5] at h
    refine lv_iinc (v := 1) (lv' := [(2, .int 1), (3, .int 8), (0, .ref (X 12)), (1, .int 0)]) hx hb dJ7_fill_53178_14 hl (k := 1) rfl (by decide) (by decide) rfl (fun ls hl => ?_)
    refine lv_goto (tgt := 5) hx hb dJ7_fill_53178_17 (by decide) ?_
    refine lv_iload_n hx hb dJ7_fill_53178_5 rfl (lv_at hl 0 rfl) ?_
    refine lv_iload_n hx hb dJ7_fill_53178_6 rfl (lv_at hl 1 rfl) ?_
    refine lv_icmp_ge (tgt := 20) hx hb dJ7_fill_53178_7 (by decide) (fun c_699 => ?_) (fun c_699 => ?_)
    · exact absurd c_699 (by decide)
    · refine lv_aload_n hx hb dJ7_fill_53178_10 rfl (lv_at hl 2 rfl) ?_
      refine lv_iload_n hx hb dJ7_fill_53178_11 rfl (lv_at hl 0 rfl) ?_
      refine lv_iload_n hx hb dJ7_fill_53178_12 rfl (lv_at hl 3 rfl) ?_
      refine q_iast C h kx5 (by unfold vp_in; decide) dJ7_fill_53178_13 (fun H locs h => ?_)
      rw [upd0] at h
      rw [hu_id kx5] at h
      refine lv_iinc (v := 2) (lv' := [(2, .int 2), (3, .int 8), (0, .ref (X 12)), (1, .int 0)]) hx hb dJ7_fill_53178_14 hl (k := 0) rfl (by decide) (by decide) rfl (fun ls hl => ?_)
      refine lv_goto (tgt := 5) hx hb dJ7_fill_53178_17 (by decide) ?_
      refine lv_iload_n hx hb dJ7_fill_53178_5 rfl (lv_at hl 0 rfl) ?_
      refine lv_iload_n hx hb dJ7_fill_53178_6 rfl (lv_at hl 1 rfl) ?_
      refine lv_icmp_ge (tgt := 20) hx hb dJ7_fill_53178_7 (by decide) (fun c_701 => ?_) (fun c_701 => ?_)
      · exact absurd c_701 (by decide)
      · refine lv_aload_n hx hb dJ7_fill_53178_10 rfl (lv_at hl 2 rfl) ?_
        refine lv_iload_n hx hb dJ7_fill_53178_11 rfl (lv_at hl 0 rfl) ?_
        refine lv_iload_n hx hb dJ7_fill_53178_12 rfl (lv_at hl 3 rfl) ?_
        refine q_iast C h kx5 (by unfold vp_in; decide) dJ7_fill_53178_13 (fun H locs h => ?_)
        rw [upd0] at h
        rw [hu_id kx5] at h
        refine lv_iinc (v := 3) (lv' := [(2, .int 3), (3, .int 8), (0, .ref (X 12)), (1, .int 0)]) hx hb dJ7_fill_53178_14 hl (k := 0) rfl (by decide) (by decide) rfl (fun ls hl => ?_)
        refine lv_goto (tgt := 5) hx hb dJ7_fill_53178_17 (by decide) ?_
        refine lv_iload_n hx hb dJ7_fill_53178_5 rfl (lv_at hl 0 rfl) ?_
        refine lv_iload_n hx hb dJ7_fill_53178_6 rfl (lv_at hl 1 rfl) ?_
        refine lv_icmp_ge (tgt := 20) hx hb dJ7_fill_53178_7 (by decide) (fun c_703 => ?_) (fun c_703 => ?_)
        · exact absurd c_703 (by decide)
        · refine lv_aload_n hx hb dJ7_fill_53178_10 rfl (lv_at hl 2 rfl) ?_
          refine lv_iload_n hx hb dJ7_fill_53178_11 rfl (lv_at hl 0 rfl) ?_
          refine lv_iload_n hx hb dJ7_fill_53178_12 rfl (lv_at hl 3 rfl) ?_
          refine q_iast C h kx5 (by unfold vp_in; decide) dJ7_fill_53178_13 (fun H locs h => ?_)
          rw [upd0] at h
          rw [hu_id kx5] at h
          refine lv_iinc (v := 4) (lv' := [(2, .int 4), (3, .int 8), (0, .ref (X 12)), (1, .int 0)]) hx hb dJ7_fill_53178_14 hl (k := 0) rfl (by decide) (by decide) rfl (fun ls hl => ?_)
          refine lv_goto (tgt := 5) hx hb dJ7_fill_53178_17 (by decide) ?_
          refine lv_iload_n hx hb dJ7_fill_53178_5 rfl (lv_at hl 0 rfl) ?_
          refine lv_iload_n hx hb dJ7_fill_53178_6 rfl (lv_at hl 1 rfl) ?_
          refine lv_icmp_ge (tgt := 20) hx hb dJ7_fill_53178_7 (by decide) (fun c_705 => ?_) (fun c_705 => ?_)
          · exact absurd c_705 (by decide)
          · refine lv_aload_n hx hb dJ7_fill_53178_10 rfl (lv_at hl 2 rfl) ?_
            refine lv_iload_n hx hb dJ7_fill_53178_11 rfl (lv_at hl 0 rfl) ?_
            refine lv_iload_n hx hb dJ7_fill_53178_12 rfl (lv_at hl 3 rfl) ?_
            refine q_iast C h kx5 (by unfold vp_in; decide) dJ7_fill_53178_13 (fun H locs h => ?_)
            rw [upd0] at h
            rw [hu_id kx5] at h
            refine lv_iinc (v := 5) (lv' := [(2, .int 5), (3, .int 8), (0, .ref (X 12)), (1, .int 0)]) hx hb dJ7_fill_53178_14 hl (k := 0) rfl (by decide) (by decide) rfl (fun ls hl => ?_)
            refine lv_goto (tgt := 5) hx hb dJ7_fill_53178_17 (by decide) ?_
            refine lv_iload_n hx hb dJ7_fill_53178_5 rfl (lv_at hl 0 rfl) ?_
            refine lv_iload_n hx hb dJ7_fill_53178_6 rfl (lv_at hl 1 rfl) ?_
            refine lv_icmp_ge (tgt := 20) hx hb dJ7_fill_53178_7 (by decide) (fun c_707 => ?_) (fun c_707 => ?_)
            · exact absurd c_707 (by decide)
            · refine lv_aload_n hx hb dJ7_fill_53178_10 rfl (lv_at hl 2 rfl) ?_
              refine lv_iload_n hx hb dJ7_fill_53178_11 rfl (lv_at hl 0 rfl) ?_
              refine lv_iload_n hx hb dJ7_fill_53178_12 rfl (lv_at hl 3 rfl) ?_
              refine q_iast C h kx5 (by unfold vp_in; decide) dJ7_fill_53178_13 (fun H locs h => ?_)
              rw [upd0] at h
              rw [hu_id kx5] at h
              refine lv_iinc (v := 6) (lv' := [(2, .int 6), (3, .int 8), (0, .ref (X 12)), (1, .int 0)]) hx hb dJ7_fill_53178_14 hl (k := 0) rfl (by decide) (by decide) rfl (fun ls hl => ?_)
              refine lv_goto (tgt := 5) hx hb dJ7_fill_53178_17 (by decide) ?_
              refine lv_iload_n hx hb dJ7_fill_53178_5 rfl (lv_at hl 0 rfl) ?_
              refine lv_iload_n hx hb dJ7_fill_53178_6 rfl (lv_at hl 1 rfl) ?_
              refine lv_icmp_ge (tgt := 20) hx hb dJ7_fill_53178_7 (by decide) (fun c_709 => ?_) (fun c_709 => ?_)
              · exact absurd c_709 (by decide)
              · refine lv_aload_n hx hb dJ7_fill_53178_10 rfl (lv_at hl 2 rfl) ?_
                refine lv_iload_n hx hb dJ7_fill_53178_11 rfl (lv_at hl 0 rfl) ?_
                refine lv_iload_n hx hb dJ7_fill_53178_12 rfl (lv_at hl 3 rfl) ?_
                refine q_iast C h kx5 (by unfold vp_in; decide) dJ7_fill_53178_13 (fun H locs h => ?_)
                rw [upd0] at h
                rw [hu_id kx5] at h
                refine lv_iinc (v := 7) (lv' := [(2, .int 7), (3, .int 8), (0, .ref (X 12)), (1, .int 0)]) hx hb dJ7_fill_53178_14 hl (k := 0) rfl (by decide) (by decide) rfl (fun ls hl => ?_)
                refine lv_goto (tgt := 5) hx hb dJ7_fill_53178_17 (by decide) ?_
                refine lv_iload_n hx hb dJ7_fill_53178_5 rfl (lv_at hl 0 rfl) ?_
                refine lv_iload_n hx hb dJ7_fill_53178_6 rfl (lv_at hl 1 rfl) ?_
                refine lv_icmp_ge (tgt := 20) hx hb dJ7_fill_53178_7 (by decide) (fun c_711 => ?_) (fun c_711 => ?_)
                · exact absurd c_711 (by decide)
                · refine lv_aload_n hx hb dJ7_fill_53178_10 rfl (lv_at hl 2 rfl) ?_
                  refine lv_iload_n hx hb dJ7_fill_53178_11 rfl (lv_at hl 0 rfl) ?_
                  refine lv_iload_n hx hb dJ7_fill_53178_12 rfl (lv_at hl 3 rfl) ?_
                  refine q_iast C h kx5 (by unfold vp_in; decide) dJ7_fill_53178_13 (fun H locs h => ?_)
                  rw [upd0] at h
                  rw [hu_id kx5] at h
                  refine lv_iinc (v := 8) (lv' := [(2, .int 8), (3, .int 8), (0, .ref (X 12)), (1, .int 0)]) hx hb dJ7_fill_53178_14 hl (k := 0) rfl (by decide) (by decide) rfl (fun ls hl => ?_)
                  refine lv_goto (tgt := 5) hx hb dJ7_fill_53178_17 (by decide) ?_
                  refine lv_iload_n hx hb dJ7_fill_53178_5 rfl (lv_at hl 0 rfl) ?_
                  refine lv_iload_n hx hb dJ7_fill_53178_6 rfl (lv_at hl 1 rfl) ?_
                  refine lv_icmp_ge (tgt := 20) hx hb dJ7_fill_53178_7 (by decide) (fun c_713 => ?_) (fun c_713 => ?_)
                  · exact q_vret C h hr (rfl) (Nat.le_of_ble_eq_true rfl) (Nat.le_of_ble_eq_true rfl) dJ7_fill_53178_20
                  · exact absurd c_713 (by decide)
set_option maxRecDepth 100000 in
set_option maxHeartbeats 4000000 in
theorem c_X7_read (l : Launch) (D : va_G) (G : Nat → Nat) (b0 : Nat) (f : hM) (X : Nat → Nat) (hX : xw G f X) : mI l yX7_read cX7_read 3 (.int) { frames := 1, cells := 0, slots := 0, locals := 23 } D G b0 f [.ref (X 1)] (fun r f1 => (0 : Int32) = r ∧ f = f1) := by
  refine met_of (own := RX7) (by decide) rfl (Nat.le_of_ble_eq_true rfl) ?_
  intro p e s m below meth c ls C hr hini hl h
  have hl : lv_has ls 3 [(0, .ref (X 1))] := hl
  obtain ⟨hx, hb, hml, hown, hts, hE0, hlk⟩ := id C
  obtain ⟨kx0, kx1, kx2, kx3, kx4, kx5, kx6, kx7, kx8, kx9⟩ := hX
  refine lv_aload_n hx hb dX7_read_0 rfl (lv_at hl 0 rfl) ?_
  refine q_get C h kx1 fl_X7_15 (v := .ref (X 12)) rfl dX7_read_1 ?_
  refine lv_iconst (v := 0) hx hb dX7_read_4 (by decide) ?_
  refine k_v (r_S C h hl (As := [.ref (X 12), .int 0]) (rest := []) (c_J7_fill_53178 l D G b0 f X ⟨kx0, kx1, kx2, kx3, kx4, kx5, kx6, kx7, kx8, kx9⟩) mk_J7_fill_53178 w_436 w_437 w_438 ⟨Nat.le_of_ble_eq_true rfl, Nat.le_of_ble_eq_true rfl⟩ rfl (Nat.le_of_ble_eq_true rfl) ⟨Nat.le_of_ble_eq_true rfl, Nat.le_of_ble_eq_true rfl⟩ rfl dX7_read_5) h (fun f_715 H locs p_716 h => ?_)
  obtain rfl := p_716
  refine lv_aload_n hx hb dX7_read_8 rfl (lv_at hl 0 rfl) ?_
  refine lv_iconst (v := 0) hx hb dX7_read_9 (by decide) ?_
  refine q_put C h kx1 flw_X7_24 (Or.inr ⟨_, _, _, rfl, rfl⟩) (v := .int 0) rfl rfl (Nat.le_of_ble_eq_true rfl) dX7_read_10 (fun H locs h => ?_)
  have h : hw D b0 s.heap (hu f (X 1) (.inr (8, [.int 0, .ref (X 11), .ref (X 12), .int 0, .int 0, .int 0, .int 0]))) H locs := h
  rw [hu_id kx1] at h
  refine lv_aload_n hx hb dX7_read_13 rfl (lv_at hl 0 rfl) ?_
  refine lv_iconst (v := 0) hx hb dX7_read_14 (by decide) ?_
  refine q_put C h kx1 flw_X7_27 (Or.inr ⟨_, _, _, rfl, rfl⟩) (v := .int 0) rfl rfl (Nat.le_of_ble_eq_true rfl) dX7_read_15 (fun H locs h => ?_)
  have h : hw D b0 s.heap (hu f (X 1) (.inr (8, [.int 0, .ref (X 11), .ref (X 12), .int 0, .int 0, .int 0, .int 0]))) H locs := h
  rw [hu_id kx1] at h
  refine lv_aload_n hx hb dX7_read_18 rfl (lv_at hl 0 rfl) ?_
  refine lv_iconst (v := 0) hx hb dX7_read_19 (by decide) ?_
  refine q_put C h kx1 flw_X7_39 (Or.inr ⟨_, _, _, rfl, rfl⟩) (v := .int 0) rfl rfl (Nat.le_of_ble_eq_true rfl) dX7_read_20 (fun H locs h => ?_)
  have h : hw D b0 s.heap (hu f (X 1) (.inr (8, [.int 0, .ref (X 11), .ref (X 12), .int 0, .int 0, .int 0, .int 0]))) H locs := h
  rw [hu_id kx1] at h
  refine lv_aload_n hx hb dX7_read_23 rfl (lv_at hl 0 rfl) ?_
  refine lv_iconst (v := 0) hx hb dX7_read_24 (by decide) ?_
  refine q_put C h kx1 flw_X7_42 (Or.inr ⟨_, _, _, rfl, rfl⟩) (v := .int 0) rfl rfl (Nat.le_of_ble_eq_true rfl) dX7_read_25 (fun H locs h => ?_)
  have h : hw D b0 s.heap (hu f (X 1) (.inr (8, [.int 0, .ref (X 11), .ref (X 12), .int 0, .int 0, .int 0, .int 0]))) H locs := h
  rw [hu_id kx1] at h
  refine lv_iconst (v := 0) hx hb dX7_read_28 (by decide) ?_
  refine lv_istore_n (lv' := [(1, .int 0), (0, .ref (X 1))]) hx hb dX7_read_29 rfl hl (by decide) rfl (fun ls hl => ?_)
  refine lv_iconst (v := 0) hx hb dX7_read_30 (by decide) ?_
  refine lv_istore_n (lv' := [(2, .int 0), (1, .int 0), (0, .ref (X 1))]) hx hb dX7_read_31 rfl hl (by decide) rfl (fun ls hl => ?_)
  refine lv_iload_n hx hb dX7_read_32 rfl (lv_at hl 0 rfl) ?_
  refine lv_aload_n hx hb dX7_read_33 rfl (lv_at hl 2 rfl) ?_
  refine q_get C h kx1 fl_X7_18 (v := .int 0) rfl dX7_read_34 ?_
  refine lv_icmp_ge (tgt := 79) hx hb dX7_read_37 (by decide) (fun c_717 => ?_) (fun c_717 => ?_)
  · refine lv_aload_n hx hb dX7_read_79 rfl (lv_at hl 2 rfl) ?_
    refine q_get C h kx1 fl_X7_39 (v := .int 0) rfl dX7_read_80 ?_
    refine lv_iconst (v := 1) hx hb dX7_read_83 (by decide) ?_
    refine lv_icmp_eq (tgt := 104) hx hb dX7_read_84 (by decide) (fun c_718 => ?_) (fun c_718 => ?_)
    · exact absurd c_718 (by decide)
    · refine lv_aload_n hx hb dX7_read_87 rfl (lv_at hl 2 rfl) ?_
      refine q_get C h kx1 fl_X7_39 (v := .int 0) rfl dX7_read_88 ?_
      refine lv_iconst (v := 2) hx hb dX7_read_91 (by decide) ?_
      refine lv_icmp_eq (tgt := 104) hx hb dX7_read_92 (by decide) (fun c_719 => ?_) (fun c_719 => ?_)
      · exact absurd c_719 (by decide)
      · refine lv_aload_n hx hb dX7_read_95 rfl (lv_at hl 2 rfl) ?_
        refine q_get C h kx1 fl_X7_39 (v := .int 0) rfl dX7_read_96 ?_
        refine lv_bipush (v := 6) hx hb dX7_read_99 (by decide) ?_
        refine lv_icmp_ne (tgt := 108) hx hb dX7_read_101 (by decide) (fun c_720 => ?_) (fun c_720 => ?_)
        · refine lv_aload_n hx hb dX7_read_108 rfl (lv_at hl 2 rfl) ?_
          refine q_get C h kx1 fl_X7_18 (v := .int 0) rfl dX7_read_109 ?_
          exact q_iret C h hr (⟨rfl, rfl⟩) (Nat.le_of_ble_eq_true rfl) (Nat.le_of_ble_eq_true rfl) dX7_read_112
        · exact absurd c_720 (by decide)
  · exact absurd c_717 (by decide)
set_option maxRecDepth 100000 in
set_option maxHeartbeats 4000000 in
theorem c_X0_size (l : Launch) (D : va_G) (G : Nat → Nat) (b0 : Nat) (f : hM) (X : Nat → Nat) (hX : xw G f X) : mI l yX0_size cX0_size 1 (.int) { frames := 0, cells := 0, slots := 0, locals := 0 } D G b0 f [.ref (X 2)] (fun r f1 => (0 : Int32) = r ∧ f = f1) := by
  refine met_of (own := RX0) (by decide) rfl (Nat.le_of_ble_eq_true rfl) ?_
  intro p e s m below meth c ls C hr hini hl h
  have hl : lv_has ls 1 [(0, .ref (X 2))] := hl
  obtain ⟨hx, hb, hml, hown, hts, hE0, hlk⟩ := id C
  obtain ⟨kx0, kx1, kx2, kx3, kx4, kx5, kx6, kx7, kx8, kx9⟩ := hX
  refine lv_aload_n hx hb dX0_size_0 rfl (lv_at hl 0 rfl) ?_
  refine q_get C h kx2 fl_X0_12 (v := .ref (X 13)) rfl dX0_size_1 ?_
  refine q_get C h kx6 fl_X0_25 (v := .int 0) rfl dX0_size_4 ?_
  exact q_iret C h hr (⟨rfl, rfl⟩) (Nat.le_of_ble_eq_true rfl) (Nat.le_of_ble_eq_true rfl) dX0_size_7
set_option maxRecDepth 100000 in
set_option maxHeartbeats 4000000 in
theorem c_X10_unlikeSets (l : Launch) (D : va_G) (G : Nat → Nat) (b0 : Nat) (f : hM) (X : Nat → Nat) (hX : xw G f X) : mI l yX10_unlikeSets cX10_unlikeSets 3 (.int) { frames := 1, cells := 0, slots := 0, locals := 20 } D G b0 f [.ref (X 0)] (fun r f1 => (0 : Int32) = r ∧ f = f1) := by
  refine met_of (own := RX10) (by decide) rfl (Nat.le_of_ble_eq_true rfl) ?_
  intro p e s m below meth c ls C hr hini hl h
  have hl : lv_has ls 3 [(0, .ref (X 0))] := hl
  obtain ⟨hx, hb, hml, hown, hts, hE0, hlk⟩ := id C
  obtain ⟨kx0, kx1, kx2, kx3, kx4, kx5, kx6, kx7, kx8, kx9⟩ := hX
  refine lv_iconst (v := 0) hx hb dX10_unlikeSets_0 (by decide) ?_
  refine lv_istore_n (lv' := [(1, .int 0), (0, .ref (X 0))]) hx hb dX10_unlikeSets_1 rfl hl (by decide) rfl (fun ls hl => ?_)
  refine lv_iconst (v := 0) hx hb dX10_unlikeSets_2 (by decide) ?_
  refine lv_istore_n (lv' := [(2, .int 0), (1, .int 0), (0, .ref (X 0))]) hx hb dX10_unlikeSets_3 rfl hl (by decide) rfl (fun ls hl => ?_)
  refine lv_iload_n hx hb dX10_unlikeSets_4 rfl (lv_at hl 0 rfl) ?_
  refine lv_aload_n hx hb dX10_unlikeSets_5 rfl (lv_at hl 2 rfl) ?_
  refine q_get C h kx0 fl_X10_19 (v := .ref (X 2)) rfl dX10_unlikeSets_6 ?_
  refine k_i (r_V C h hl (As := []) (rest := [.int 0]) (c_X0_size l D G b0 f X ⟨kx0, kx1, kx2, kx3, kx4, kx5, kx6, kx7, kx8, kx9⟩ ) kx2 (Cn := RX0) (T := TX0) (N := 6) rfl rfl mk_X0_size w_1321 w_1322 w_1323 w_1324 ⟨Nat.le_of_ble_eq_true rfl, Nat.le_of_ble_eq_true rfl⟩ rfl (Nat.le_of_ble_eq_true rfl) ⟨Nat.le_of_ble_eq_true rfl, Nat.le_of_ble_eq_true rfl⟩ rfl dX10_unlikeSets_9) h (fun r_721 f_722 H locs p_723 h => ?_)
  obtain ⟨e_, rfl⟩ := p_723
  subst e_
  refine lv_icmp_ge (tgt := 32) hx hb dX10_unlikeSets_12 (by decide) (fun c_724 => ?_) (fun c_724 => ?_)
  · refine lv_iload_n hx hb dX10_unlikeSets_32 rfl (lv_at hl 1 rfl) ?_
    exact q_iret C h hr (⟨rfl, rfl⟩) (Nat.le_of_ble_eq_true rfl) (Nat.le_of_ble_eq_true rfl) dX10_unlikeSets_33
  · exact absurd c_724 (by decide)
set_option maxRecDepth 100000 in
set_option maxHeartbeats 4000000 in
theorem c_X0_takeBack (l : Launch) (D : va_G) (G : Nat → Nat) (b0 : Nat) (f : hM) (X : Nat → Nat) (hX : xw G f X) : mI l yX0_takeBack cX0_takeBack 1 (.int) { frames := 0, cells := 0, slots := 0, locals := 0 } D G b0 f [.ref (X 2)] (fun r f1 => (-1 : Int32) = r ∧ f = f1) := by
  refine met_of (own := RX0) (by decide) rfl (Nat.le_of_ble_eq_true rfl) ?_
  intro p e s m below meth c ls C hr hini hl h
  have hl : lv_has ls 1 [(0, .ref (X 2))] := hl
  obtain ⟨hx, hb, hml, hown, hts, hE0, hlk⟩ := id C
  obtain ⟨kx0, kx1, kx2, kx3, kx4, kx5, kx6, kx7, kx8, kx9⟩ := hX
  refine lv_aload_n hx hb dX0_takeBack_0 rfl (lv_at hl 0 rfl) ?_
  refine q_get C h kx2 fl_X0_51 (v := .int 0) rfl dX0_takeBack_1 ?_
  refine lv_if_ne (tgt := 9) hx hb dX0_takeBack_4 (by decide) (fun c_725 => ?_) (fun c_725 => ?_)
  · exact absurd c_725 (by decide)
  · refine lv_iconst (v := -1) hx hb dX0_takeBack_7 (by decide) ?_
    exact q_iret C h hr (⟨rfl, rfl⟩) (Nat.le_of_ble_eq_true rfl) (Nat.le_of_ble_eq_true rfl) dX0_takeBack_8
set_option maxRecDepth 100000 in
set_option maxHeartbeats 4000000 in
theorem c_X0_restore (l : Launch) (D : va_G) (G : Nat → Nat) (b0 : Nat) (f : hM) (X : Nat → Nat) (hX : xw G f X) : mI l yX0_restore cX0_restore 1 (.int) { frames := 0, cells := 0, slots := 0, locals := 0 } D G b0 f [.ref (X 2)] (fun r f1 => (-1 : Int32) = r ∧ f = f1) := by
  refine met_of (own := RX0) (by decide) rfl (Nat.le_of_ble_eq_true rfl) ?_
  intro p e s m below meth c ls C hr hini hl h
  have hl : lv_has ls 1 [(0, .ref (X 2))] := hl
  obtain ⟨hx, hb, hml, hown, hts, hE0, hlk⟩ := id C
  obtain ⟨kx0, kx1, kx2, kx3, kx4, kx5, kx6, kx7, kx8, kx9⟩ := hX
  refine lv_aload_n hx hb dX0_restore_0 rfl (lv_at hl 0 rfl) ?_
  refine q_get C h kx2 fl_X0_60 (v := .int 0) rfl dX0_restore_1 ?_
  refine lv_if_ne (tgt := 9) hx hb dX0_restore_4 (by decide) (fun c_726 => ?_) (fun c_726 => ?_)
  · exact absurd c_726 (by decide)
  · refine lv_iconst (v := -1) hx hb dX0_restore_7 (by decide) ?_
    exact q_iret C h hr (⟨rfl, rfl⟩) (Nat.le_of_ble_eq_true rfl) (Nat.le_of_ble_eq_true rfl) dX0_restore_8
set_option maxRecDepth 100000 in
set_option maxHeartbeats 4000000 in
theorem c_X5_copy (l : Launch) (D : va_G) (G : Nat → Nat) (b0 : Nat) (f : hM) (X : Nat → Nat) (hX : xw G f X) : mV l yX5_copy cX5_copy 3 { frames := 0, cells := 0, slots := 0, locals := 0 } D G b0 f [.ref (X 14), .ref (X 13)] (fun f1 => f = f1) := by
  refine met_of (own := RX5) (by decide) rfl (Nat.le_of_ble_eq_true rfl) ?_
  intro p e s m below meth c ls C hr hini hl h
  have hl : lv_has ls 3 [(0, .ref (X 14)), (1, .ref (X 13))] := hl
  obtain ⟨hx, hb, hml, hown, hts, hE0, hlk⟩ := id C
  obtain ⟨kx0, kx1, kx2, kx3, kx4, kx5, kx6, kx7, kx8, kx9⟩ := hX
  refine lv_iconst (v := 0) hx hb dX5_copy_0 (by decide) ?_
  refine lv_istore_n (lv' := [(2, .int 0), (0, .ref (X 14)), (1, .ref (X 13))]) hx hb dX5_copy_1 rfl hl (by decide) rfl (fun ls hl => ?_)
  refine lv_iload_n hx hb dX5_copy_2 rfl (lv_at hl 0 rfl) ?_
  refine lv_bipush (v := 8) hx hb dX5_copy_3 (by decide) ?_
  refine lv_icmp_ge (tgt := 26) hx hb dX5_copy_5 (by decide) (fun c_727 => ?_) (fun c_727 => ?_)
  · exact absurd c_727 (by decide)
  · refine lv_aload_n hx hb dX5_copy_8 rfl (lv_at hl 1 rfl) ?_
    refine q_get C h kx7 fl_X5_11 (v := .ref (X 17)) rfl dX5_copy_9 ?_
    refine lv_iload_n hx hb dX5_copy_12 rfl (lv_at hl 0 rfl) ?_
    refine lv_aload_n hx hb dX5_copy_13 rfl (lv_at hl 2 rfl) ?_
    refine q_get C h kx6 fl_X5_11 (v := .ref (X 16)) rfl dX5_copy_14 ?_
    refine lv_iload_n hx hb dX5_copy_17 rfl (lv_at hl 0 rfl) ?_
    refine q_aald C h 4 rfl kx8 (by unfold vp_in; decide) dX5_copy_18 ?_
    refine q_aastN C h 4 rfl kx9 (by unfold vp_in; decide) dX5_copy_19 (fun H locs h => ?_)
    rw [upn0] at h
    rw [hu_id kx9] at h
    refine lv_iinc (v := 1) (lv' := [(2, .int 1), (0, .ref (X 14)), (1, .ref (X 13))]) hx hb dX5_copy_20 hl (k := 0) rfl (by decide) (by decide) rfl (fun ls hl => ?_)
    refine lv_goto (tgt := 2) hx hb dX5_copy_23 (by decide) ?_
    refine lv_iload_n hx hb dX5_copy_2 rfl (lv_at hl 0 rfl) ?_
    refine lv_bipush (v := 8) hx hb dX5_copy_3 (by decide) ?_
    refine lv_icmp_ge (tgt := 26) hx hb dX5_copy_5 (by decide) (fun c_728 => ?_) (fun c_728 => ?_)
    · exact absurd c_728 (by decide)
    · refine lv_aload_n hx hb dX5_copy_8 rfl (lv_at hl 1 rfl) ?_
      refine q_get C h kx7 fl_X5_11 (v := .ref (X 17)) rfl dX5_copy_9 ?_
      refine lv_iload_n hx hb dX5_copy_12 rfl (lv_at hl 0 rfl) ?_
      refine lv_aload_n hx hb dX5_copy_13 rfl (lv_at hl 2 rfl) ?_
      refine q_get C h kx6 fl_X5_11 (v := .ref (X 16)) rfl dX5_copy_14 ?_
      refine lv_iload_n hx hb dX5_copy_17 rfl (lv_at hl 0 rfl) ?_
      refine q_aald C h 4 rfl kx8 (by unfold vp_in; decide) dX5_copy_18 ?_
      refine q_aastN C h 4 rfl kx9 (by unfold vp_in; decide) dX5_copy_19 (fun H locs h => ?_)
      rw [upn0] at h
      rw [hu_id kx9] at h
      refine lv_iinc (v := 2) (lv' := [(2, .int 2), (0, .ref (X 14)), (1, .ref (X 13))]) hx hb dX5_copy_20 hl (k := 0) rfl (by decide) (by decide) rfl (fun ls hl => ?_)
      refine lv_goto (tgt := 2) hx hb dX5_copy_23 (by decide) ?_
      refine lv_iload_n hx hb dX5_copy_2 rfl (lv_at hl 0 rfl) ?_
      refine lv_bipush (v := 8) hx hb dX5_copy_3 (by decide) ?_
      refine lv_icmp_ge (tgt := 26) hx hb dX5_copy_5 (by decide) (fun c_729 => ?_) (fun c_729 => ?_)
      · exact absurd c_729 (by decide)
      · refine lv_aload_n hx hb dX5_copy_8 rfl (lv_at hl 1 rfl) ?_
        refine q_get C h kx7 fl_X5_11 (v := .ref (X 17)) rfl dX5_copy_9 ?_
        refine lv_iload_n hx hb dX5_copy_12 rfl (lv_at hl 0 rfl) ?_
        refine lv_aload_n hx hb dX5_copy_13 rfl (lv_at hl 2 rfl) ?_
        refine q_get C h kx6 fl_X5_11 (v := .ref (X 16)) rfl dX5_copy_14 ?_
        refine lv_iload_n hx hb dX5_copy_17 rfl (lv_at hl 0 rfl) ?_
        refine q_aald C h 4 rfl kx8 (by unfold vp_in; decide) dX5_copy_18 ?_
        refine q_aastN C h 4 rfl kx9 (by unfold vp_in; decide) dX5_copy_19 (fun H locs h => ?_)
        rw [upn0] at h
        rw [hu_id kx9] at h
        refine lv_iinc (v := 3) (lv' := [(2, .int 3), (0, .ref (X 14)), (1, .ref (X 13))]) hx hb dX5_copy_20 hl (k := 0) rfl (by decide) (by decide) rfl (fun ls hl => ?_)
        refine lv_goto (tgt := 2) hx hb dX5_copy_23 (by decide) ?_
        refine lv_iload_n hx hb dX5_copy_2 rfl (lv_at hl 0 rfl) ?_
        refine lv_bipush (v := 8) hx hb dX5_copy_3 (by decide) ?_
        refine lv_icmp_ge (tgt := 26) hx hb dX5_copy_5 (by decide) (fun c_730 => ?_) (fun c_730 => ?_)
        · exact absurd c_730 (by decide)
        · refine lv_aload_n hx hb dX5_copy_8 rfl (lv_at hl 1 rfl) ?_
          refine q_get C h kx7 fl_X5_11 (v := .ref (X 17)) rfl dX5_copy_9 ?_
          refine lv_iload_n hx hb dX5_copy_12 rfl (lv_at hl 0 rfl) ?_
          refine lv_aload_n hx hb dX5_copy_13 rfl (lv_at hl 2 rfl) ?_
          refine q_get C h kx6 fl_X5_11 (v := .ref (X 16)) rfl dX5_copy_14 ?_
          refine lv_iload_n hx hb dX5_copy_17 rfl (lv_at hl 0 rfl) ?_
          refine q_aald C h 4 rfl kx8 (by unfold vp_in; decide) dX5_copy_18 ?_
          refine q_aastN C h 4 rfl kx9 (by unfold vp_in; decide) dX5_copy_19 (fun H locs h => ?_)
          rw [upn0] at h
          rw [hu_id kx9] at h
          refine lv_iinc (v := 4) (lv' := [(2, .int 4), (0, .ref (X 14)), (1, .ref (X 13))]) hx hb dX5_copy_20 hl (k := 0) rfl (by decide) (by decide) rfl (fun ls hl => ?_)
          refine lv_goto (tgt := 2) hx hb dX5_copy_23 (by decide) ?_
          refine lv_iload_n hx hb dX5_copy_2 rfl (lv_at hl 0 rfl) ?_
          refine lv_bipush (v := 8) hx hb dX5_copy_3 (by decide) ?_
          refine lv_icmp_ge (tgt := 26) hx hb dX5_copy_5 (by decide) (fun c_731 => ?_) (fun c_731 => ?_)
          · exact absurd c_731 (by decide)
          · refine lv_aload_n hx hb dX5_copy_8 rfl (lv_at hl 1 rfl) ?_
            refine q_get C h kx7 fl_X5_11 (v := .ref (X 17)) rfl dX5_copy_9 ?_
            refine lv_iload_n hx hb dX5_copy_12 rfl (lv_at hl 0 rfl) ?_
            refine lv_aload_n hx hb dX5_copy_13 rfl (lv_at hl 2 rfl) ?_
            refine q_get C h kx6 fl_X5_11 (v := .ref (X 16)) rfl dX5_copy_14 ?_
            refine lv_iload_n hx hb dX5_copy_17 rfl (lv_at hl 0 rfl) ?_
            refine q_aald C h 4 rfl kx8 (by unfold vp_in; decide) dX5_copy_18 ?_
            refine q_aastN C h 4 rfl kx9 (by unfold vp_in; decide) dX5_copy_19 (fun H locs h => ?_)
            rw [upn0] at h
            rw [hu_id kx9] at h
            refine lv_iinc (v := 5) (lv' := [(2, .int 5), (0, .ref (X 14)), (1, .ref (X 13))]) hx hb dX5_copy_20 hl (k := 0) rfl (by decide) (by decide) rfl (fun ls hl => ?_)
            refine lv_goto (tgt := 2) hx hb dX5_copy_23 (by decide) ?_
            refine lv_iload_n hx hb dX5_copy_2 rfl (lv_at hl 0 rfl) ?_
            refine lv_bipush (v := 8) hx hb dX5_copy_3 (by decide) ?_
            refine lv_icmp_ge (tgt := 26) hx hb dX5_copy_5 (by decide) (fun c_732 => ?_) (fun c_732 => ?_)
            · exact absurd c_732 (by decide)
            · refine lv_aload_n hx hb dX5_copy_8 rfl (lv_at hl 1 rfl) ?_
              refine q_get C h kx7 fl_X5_11 (v := .ref (X 17)) rfl dX5_copy_9 ?_
              refine lv_iload_n hx hb dX5_copy_12 rfl (lv_at hl 0 rfl) ?_
              refine lv_aload_n hx hb dX5_copy_13 rfl (lv_at hl 2 rfl) ?_
              refine q_get C h kx6 fl_X5_11 (v := .ref (X 16)) rfl dX5_copy_14 ?_
              refine lv_iload_n hx hb dX5_copy_17 rfl (lv_at hl 0 rfl) ?_
              refine q_aald C h 4 rfl kx8 (by unfold vp_in; decide) dX5_copy_18 ?_
              refine q_aastN C h 4 rfl kx9 (by unfold vp_in; decide) dX5_copy_19 (fun H locs h => ?_)
              rw [upn0] at h
              rw [hu_id kx9] at h
              refine lv_iinc (v := 6) (lv' := [(2, .int 6), (0, .ref (X 14)), (1, .ref (X 13))]) hx hb dX5_copy_20 hl (k := 0) rfl (by decide) (by decide) rfl (fun ls hl => ?_)
              refine lv_goto (tgt := 2) hx hb dX5_copy_23 (by decide) ?_
              refine lv_iload_n hx hb dX5_copy_2 rfl (lv_at hl 0 rfl) ?_
              refine lv_bipush (v := 8) hx hb dX5_copy_3 (by decide) ?_
              refine lv_icmp_ge (tgt := 26) hx hb dX5_copy_5 (by decide) (fun c_733 => ?_) (fun c_733 => ?_)
              · exact absurd c_733 (by decide)
              · refine lv_aload_n hx hb dX5_copy_8 rfl (lv_at hl 1 rfl) ?_
                refine q_get C h kx7 fl_X5_11 (v := .ref (X 17)) rfl dX5_copy_9 ?_
                refine lv_iload_n hx hb dX5_copy_12 rfl (lv_at hl 0 rfl) ?_
                refine lv_aload_n hx hb dX5_copy_13 rfl (lv_at hl 2 rfl) ?_
                refine q_get C h kx6 fl_X5_11 (v := .ref (X 16)) rfl dX5_copy_14 ?_
                refine lv_iload_n hx hb dX5_copy_17 rfl (lv_at hl 0 rfl) ?_
                refine q_aald C h 4 rfl kx8 (by unfold vp_in; decide) dX5_copy_18 ?_
                refine q_aastN C h 4 rfl kx9 (by unfold vp_in; decide) dX5_copy_19 (fun H locs h => ?_)
                rw [upn0] at h
                rw [hu_id kx9] at h
                refine lv_iinc (v := 7) (lv' := [(2, .int 7), (0, .ref (X 14)), (1, .ref (X 13))]) hx hb dX5_copy_20 hl (k := 0) rfl (by decide) (by decide) rfl (fun ls hl => ?_)
                refine lv_goto (tgt := 2) hx hb dX5_copy_23 (by decide) ?_
                refine lv_iload_n hx hb dX5_copy_2 rfl (lv_at hl 0 rfl) ?_
                refine lv_bipush (v := 8) hx hb dX5_copy_3 (by decide) ?_
                refine lv_icmp_ge (tgt := 26) hx hb dX5_copy_5 (by decide) (fun c_734 => ?_) (fun c_734 => ?_)
                · exact absurd c_734 (by decide)
                · refine lv_aload_n hx hb dX5_copy_8 rfl (lv_at hl 1 rfl) ?_
                  refine q_get C h kx7 fl_X5_11 (v := .ref (X 17)) rfl dX5_copy_9 ?_
                  refine lv_iload_n hx hb dX5_copy_12 rfl (lv_at hl 0 rfl) ?_
                  refine lv_aload_n hx hb dX5_copy_13 rfl (lv_at hl 2 rfl) ?_
                  refine q_get C h kx6 fl_X5_11 (v := .ref (X 16)) rfl dX5_copy_14 ?_
                  refine lv_iload_n hx hb dX5_copy_17 rfl (lv_at hl 0 rfl) ?_
                  refine q_aald C h 4 rfl kx8 (by unfold vp_in; decide) dX5_copy_18 ?_
                  refine q_aastN C h 4 rfl kx9 (by unfold vp_in; decide) dX5_copy_19 (fun H locs h => ?_)
                  rw [upn0] at h
                  rw [hu_id kx9] at h
                  refine lv_iinc (v := 8) (lv' := [(2, .int 8), (0, .ref (X 14)), (1, .ref (X 13))]) hx hb dX5_copy_20 hl (k := 0) rfl (by decide) (by decide) rfl (fun ls hl => ?_)
                  refine lv_goto (tgt := 2) hx hb dX5_copy_23 (by decide) ?_
                  refine lv_iload_n hx hb dX5_copy_2 rfl (lv_at hl 0 rfl) ?_
                  refine lv_bipush (v := 8) hx hb dX5_copy_3 (by decide) ?_
                  refine lv_icmp_ge (tgt := 26) hx hb dX5_copy_5 (by decide) (fun c_735 => ?_) (fun c_735 => ?_)
                  · refine lv_aload_n hx hb dX5_copy_26 rfl (lv_at hl 1 rfl) ?_
                    refine lv_aload_n hx hb dX5_copy_27 rfl (lv_at hl 2 rfl) ?_
                    refine q_get C h kx6 fl_X5_15 (v := .int 0) rfl dX5_copy_28 ?_
                    refine q_put C h kx7 flw_X5_15 (Or.inr ⟨_, _, _, rfl, rfl⟩) (v := .int 0) rfl rfl (Nat.le_of_ble_eq_true rfl) dX5_copy_31 (fun H locs h => ?_)
                    have h : hw D b0 s.heap (hu f (X 14) (.inr (6, [.ref (X 17), .int 0]))) H locs := h
                    rw [hu_id kx7] at h
                    exact q_vret C h hr (rfl) (Nat.le_of_ble_eq_true rfl) (Nat.le_of_ble_eq_true rfl) dX5_copy_34
                  · exact absurd c_735 (by decide)
set_option maxRecDepth 100000 in
set_option maxHeartbeats 4000000 in
theorem c_X0_keep (l : Launch) (D : va_G) (G : Nat → Nat) (b0 : Nat) (f : hM) (bm : Nat) (X : Nat → Nat) (hX : xw G f X) (hB : ∀ i, i < 20 → X i < bm) : mI l yX0_keep cX0_keep 1 (.int) { frames := 1, cells := 0, slots := 0, locals := 22 } D G b0 f [.ref (X 2)] (fun r f1 => (0 : Int32) = r ∧ ∀ q, bm ≤ q → f1 q = f q) := by
  refine met_of (own := RX0) (by decide) rfl (Nat.le_of_ble_eq_true rfl) ?_
  intro p e s m below meth c ls C hr hini hl h
  have hl : lv_has ls 1 [(0, .ref (X 2))] := hl
  obtain ⟨hx, hb, hml, hown, hts, hE0, hlk⟩ := id C
  obtain ⟨kx0, kx1, kx2, kx3, kx4, kx5, kx6, kx7, kx8, kx9⟩ := hX
  refine lv_aload_n hx hb dX0_keep_0 rfl (lv_at hl 0 rfl) ?_
  refine q_get C h kx2 fl_X0_18 (v := .ref (X 14)) rfl dX0_keep_1 ?_
  refine lv_aload_n hx hb dX0_keep_4 rfl (lv_at hl 0 rfl) ?_
  refine q_get C h kx2 fl_X0_12 (v := .ref (X 13)) rfl dX0_keep_5 ?_
  refine k_v (r_V C h hl (As := [.ref (X 13)]) (rest := []) (c_X5_copy l D G b0 f X ⟨kx0, kx1, kx2, kx3, kx4, kx5, kx6, kx7, kx8, kx9⟩) kx7 (Cn := RX5) (T := TX5) (N := 2) rfl rfl mk_X5_copy w_585 w_586 w_587 w_588 ⟨Nat.le_of_ble_eq_true rfl, Nat.le_of_ble_eq_true rfl⟩ rfl (Nat.le_of_ble_eq_true rfl) ⟨Nat.le_of_ble_eq_true rfl, Nat.le_of_ble_eq_true rfl⟩ rfl dX0_keep_8) h (fun f_737 H locs p_738 h => ?_)
  obtain rfl := p_738
  refine lv_aload_n hx hb dX0_keep_11 rfl (lv_at hl 0 rfl) ?_
  refine lv_iconst (v := 1) hx hb dX0_keep_12 (by decide) ?_
  refine q_put C h kx2 flw_X0_60 (Or.inr ⟨_, _, _, rfl, rfl⟩) (v := .int 1) rfl rfl (Nat.le_of_ble_eq_true rfl) dX0_keep_13 (fun H locs h => ?_)
  have h : hw D b0 s.heap (hu f (X 2) (.inr (1, [.int 0, .ref (X 13), .ref (X 14), .ref (X 15), .int 1, .int 0]))) H locs := h
  generalize ef_739 : hu f (X 2) (.inr (1, [.int 0, .ref (X 13), .ref (X 14), .ref (X 15), .int 1, .int 0])) = f_739 at h
  have k_740 : f_739 (X 0) = some (.inr (11, [.ref (X 1), .ref (X 2), .ref (X 3), .ref (X 4), .ref (X 5), .ref (X 6), .ref (X 7), .ref (X 8), .ref (X 9), .ref (X 10)])) := by rw [← ef_739]; exact hu_at kx0 (hne (4, 1) (4, 11) kx2 kx0 rfl rfl (by decide))
  have k_741 : f_739 (X 1) = some (.inr (8, [.int 0, .ref (X 11), .ref (X 12), .int 0, .int 0, .int 0, .int 0])) := by rw [← ef_739]; exact hu_at kx1 (hne (4, 1) (4, 8) kx2 kx1 rfl rfl (by decide))
  have k_742 : f_739 (X 8) = some (.inl (G 1, 4, .inl (fun _ => 0))) := by rw [← ef_739]; exact hu_at kx3 (hne (4, 1) (1, 4) kx2 kx3 rfl rfl (by decide))
  have k_743 : f_739 (X 11) = some (.inl (G 1, 200, .inl (fun _ => 0))) := by rw [← ef_739]; exact hu_at kx4 (hne (4, 1) (1, 200) kx2 kx4 rfl rfl (by decide))
  have k_744 : f_739 (X 12) = some (.inl (G 1, 8, .inl (fun _ => 0))) := by rw [← ef_739]; exact hu_at kx5 (hne (4, 1) (1, 8) kx2 kx5 rfl rfl (by decide))
  have k_745 : f_739 (X 13) = some (.inr (6, [.ref (X 16), .int 0])) := by rw [← ef_739]; exact hu_at kx6 (hne (4, 1) (4, 6) kx2 kx6 rfl rfl (by decide))
  have k_746 : f_739 (X 14) = some (.inr (6, [.ref (X 17), .int 0])) := by rw [← ef_739]; exact hu_at kx7 (hne (4, 1) (4, 6) kx2 kx7 rfl rfl (by decide))
  have k_747 : f_739 (X 16) = some (.inl (G 4, 8, .inr (.inr (.inr (.inr (fun _ => none)))))) := by rw [← ef_739]; exact hu_at kx8 (hne (4, 1) (3, 8) kx2 kx8 rfl rfl (by decide))
  have k_748 : f_739 (X 17) = some (.inl (G 4, 8, .inr (.inr (.inr (.inr (fun _ => none)))))) := by rw [← ef_739]; exact hu_at kx9 (hne (4, 1) (3, 8) kx2 kx9 rfl rfl (by decide))
  have k_749 : f_739 (X 2) = some (.inr (1, [.int 0, .ref (X 13), .ref (X 14), .ref (X 15), .int 1, .int 0])) := by rw [← ef_739]; exact hu_self _ _ _
  refine lv_aload_n hx hb dX0_keep_16 rfl (lv_at hl 0 rfl) ?_
  refine q_get C h k_749 fl_X0_12 (v := .ref (X 13)) rfl dX0_keep_17 ?_
  refine q_get C h k_745 fl_X0_25 (v := .int 0) rfl dX0_keep_20 ?_
  exact q_iret C h hr (⟨rfl, fun q hq => ((congrFun ef_739.symm q).trans (hu_ne (Nat.ne_of_gt (Nat.lt_of_lt_of_le (hB 2 (by decide)) hq))))⟩) (Nat.le_of_ble_eq_true rfl) (Nat.le_of_ble_eq_true rfl) dX0_keep_23
set_option maxRecDepth 100000 in
set_option maxHeartbeats 4000000 in
theorem c_X10_fault (l : Launch) (D : va_G) (G : Nat → Nat) (b0 : Nat) (f : hM) (bm : Nat) (X : Nat → Nat) (hX : xw G f X) (hB : ∀ i, i < 20 → X i < bm) : mI l yX10_fault cX10_fault 1 (.int) { frames := 2, cells := 0, slots := 0, locals := 45 } D G b0 f [.ref (X 0)] (fun r f1 => (0 : Int32) = r ∧ ∀ q, bm ≤ q → f1 q = f q) := by
  refine met_of (own := RX10) (by decide) rfl (Nat.le_of_ble_eq_true rfl) ?_
  intro p e s m below meth c ls C hr hini hl h
  have hl : lv_has ls 1 [(0, .ref (X 0))] := hl
  obtain ⟨hx, hb, hml, hown, hts, hE0, hlk⟩ := id C
  obtain ⟨kx0, kx1, kx2, kx3, kx4, kx5, kx6, kx7, kx8, kx9⟩ := hX
  refine lv_aload_n hx hb dX10_fault_0 rfl (lv_at hl 0 rfl) ?_
  refine q_get C h kx0 fl_X10_12 (v := .ref (X 1)) rfl dX10_fault_1 ?_
  refine k_i (r_V C h hl (As := []) (rest := []) (c_X7_read l D G b0 f X ⟨kx0, kx1, kx2, kx3, kx4, kx5, kx6, kx7, kx8, kx9⟩ ) kx1 (Cn := RX7) (T := TX7) (N := 7) rfl rfl mk_X7_read w_432 w_433 w_434 w_435 ⟨Nat.le_of_ble_eq_true rfl, Nat.le_of_ble_eq_true rfl⟩ rfl (Nat.le_of_ble_eq_true rfl) ⟨Nat.le_of_ble_eq_true rfl, Nat.le_of_ble_eq_true rfl⟩ rfl dX10_fault_4) h (fun r_750 f_751 H locs p_752 h => ?_)
  obtain ⟨e_, rfl⟩ := p_752
  subst e_
  exact q_iret C h hr (⟨rfl, fun q hq => rfl⟩) (Nat.le_of_ble_eq_true rfl) (Nat.le_of_ble_eq_true rfl) dX10_fault_7
set_option maxRecDepth 100000 in
set_option maxHeartbeats 4000000 in
theorem c_X10_tell (l : Launch) (D : va_G) (G : Nat → Nat) (b0 : Nat) (f : hM) (bm : Nat) (X : Nat → Nat) (hX : xw G f X) (hB : ∀ i, i < 20 → X i < bm) : mI l yX10_tell cX10_tell 1 (.int) { frames := 2, cells := 0, slots := 0, locals := 45 } D G b0 f [.ref (X 0)] (fun r f1 => (-1 : Int32) = r ∧ ∀ q, bm ≤ q → f1 q = f q) := by
  refine met_of (own := RX10) (by decide) rfl (Nat.le_of_ble_eq_true rfl) ?_
  intro p e s m below meth c ls C hr hini hl h
  have hl : lv_has ls 1 [(0, .ref (X 0))] := hl
  obtain ⟨hx, hb, hml, hown, hts, hE0, hlk⟩ := id C
  obtain ⟨kx0, kx1, kx2, kx3, kx4, kx5, kx6, kx7, kx8, kx9⟩ := hX
  refine lv_aload_n hx hb dX10_tell_0 rfl (lv_at hl 0 rfl) ?_
  refine q_get C h kx0 fl_X10_12 (v := .ref (X 1)) rfl dX10_tell_1 ?_
  refine k_i (r_V C h hl (As := []) (rest := []) (c_X7_read l D G b0 f X ⟨kx0, kx1, kx2, kx3, kx4, kx5, kx6, kx7, kx8, kx9⟩ ) kx1 (Cn := RX7) (T := TX7) (N := 7) rfl rfl mk_X7_read w_432 w_433 w_434 w_435 ⟨Nat.le_of_ble_eq_true rfl, Nat.le_of_ble_eq_true rfl⟩ rfl (Nat.le_of_ble_eq_true rfl) ⟨Nat.le_of_ble_eq_true rfl, Nat.le_of_ble_eq_true rfl⟩ rfl dX10_tell_4) h (fun r_753 f_754 H locs p_755 h => ?_)
  obtain ⟨e_, rfl⟩ := p_755
  subst e_
  refine lv_iconst (v := -1) hx hb dX10_tell_7 (by decide) ?_
  refine lv_icmp_eq (tgt := 17) hx hb dX10_tell_8 (by decide) (fun c_756 => ?_) (fun c_756 => ?_)
  · exact absurd c_756 (by decide)
  · refine lv_aload_n hx hb dX10_tell_11 rfl (lv_at hl 0 rfl) ?_
    refine lv_iconst (v := 0) hx hb dX10_tell_12 (by decide) ?_
    refine k_i (r_V C h hl (As := [.int 0]) (rest := []) (c_X10_refuse l D G b0 f bm X ⟨kx0, kx1, kx2, kx3, kx4, kx5, kx6, kx7, kx8, kx9⟩ hB ) kx0 (Cn := RX10) (T := TX10) (N := 10) rfl rfl mk_X10_refuse w_519 w_521 w_8 w_522 ⟨Nat.le_of_ble_eq_true rfl, Nat.le_of_ble_eq_true rfl⟩ rfl (Nat.le_of_ble_eq_true rfl) ⟨Nat.le_of_ble_eq_true rfl, Nat.le_of_ble_eq_true rfl⟩ rfl dX10_tell_13) h (fun r_757 f_758 H locs p_759 h => ?_)
    obtain ⟨rfl, p_759⟩ := p_759
    exact q_iret C h hr (⟨rfl, fun q hq => (p_759 q hq)⟩) (Nat.le_of_ble_eq_true rfl) (Nat.le_of_ble_eq_true rfl) dX10_tell_16
set_option maxRecDepth 100000 in
set_option maxHeartbeats 4000000 in
theorem c_X10_undo (l : Launch) (D : va_G) (G : Nat → Nat) (b0 : Nat) (f : hM) (bm : Nat) (X : Nat → Nat) (hX : xw G f X) (hB : ∀ i, i < 20 → X i < bm) : mI l yX10_undo cX10_undo 1 (.int) { frames := 1, cells := 0, slots := 0, locals := 20 } D G b0 f [.ref (X 0)] (fun r f1 => (-1 : Int32) = r ∧ ∀ q, bm ≤ q → f1 q = f q) := by
  refine met_of (own := RX10) (by decide) rfl (Nat.le_of_ble_eq_true rfl) ?_
  intro p e s m below meth c ls C hr hini hl h
  have hl : lv_has ls 1 [(0, .ref (X 0))] := hl
  obtain ⟨hx, hb, hml, hown, hts, hE0, hlk⟩ := id C
  obtain ⟨kx0, kx1, kx2, kx3, kx4, kx5, kx6, kx7, kx8, kx9⟩ := hX
  refine lv_aload_n hx hb dX10_undo_0 rfl (lv_at hl 0 rfl) ?_
  refine q_get C h kx0 fl_X10_19 (v := .ref (X 2)) rfl dX10_undo_1 ?_
  refine k_i (r_V C h hl (As := []) (rest := []) (c_X0_takeBack l D G b0 f X ⟨kx0, kx1, kx2, kx3, kx4, kx5, kx6, kx7, kx8, kx9⟩ ) kx2 (Cn := RX0) (T := TX0) (N := 6) rfl rfl mk_X0_takeBack w_1289 w_1290 w_1291 w_1292 ⟨Nat.le_of_ble_eq_true rfl, Nat.le_of_ble_eq_true rfl⟩ rfl (Nat.le_of_ble_eq_true rfl) ⟨Nat.le_of_ble_eq_true rfl, Nat.le_of_ble_eq_true rfl⟩ rfl dX10_undo_4) h (fun r_760 f_761 H locs p_762 h => ?_)
  obtain ⟨e_, rfl⟩ := p_762
  subst e_
  exact q_iret C h hr (⟨rfl, fun q hq => rfl⟩) (Nat.le_of_ble_eq_true rfl) (Nat.le_of_ble_eq_true rfl) dX10_undo_7
set_option maxRecDepth 100000 in
set_option maxHeartbeats 4000000 in
theorem c_X10_back (l : Launch) (D : va_G) (G : Nat → Nat) (b0 : Nat) (f : hM) (bm : Nat) (X : Nat → Nat) (hX : xw G f X) (hB : ∀ i, i < 20 → X i < bm) : mI l yX10_back cX10_back 1 (.int) { frames := 1, cells := 0, slots := 0, locals := 20 } D G b0 f [.ref (X 0)] (fun r f1 => (-1 : Int32) = r ∧ ∀ q, bm ≤ q → f1 q = f q) := by
  refine met_of (own := RX10) (by decide) rfl (Nat.le_of_ble_eq_true rfl) ?_
  intro p e s m below meth c ls C hr hini hl h
  have hl : lv_has ls 1 [(0, .ref (X 0))] := hl
  obtain ⟨hx, hb, hml, hown, hts, hE0, hlk⟩ := id C
  obtain ⟨kx0, kx1, kx2, kx3, kx4, kx5, kx6, kx7, kx8, kx9⟩ := hX
  refine lv_aload_n hx hb dX10_back_0 rfl (lv_at hl 0 rfl) ?_
  refine q_get C h kx0 fl_X10_19 (v := .ref (X 2)) rfl dX10_back_1 ?_
  refine k_i (r_V C h hl (As := []) (rest := []) (c_X0_restore l D G b0 f X ⟨kx0, kx1, kx2, kx3, kx4, kx5, kx6, kx7, kx8, kx9⟩ ) kx2 (Cn := RX0) (T := TX0) (N := 6) rfl rfl mk_X0_restore w_1305 w_1306 w_1307 w_1308 ⟨Nat.le_of_ble_eq_true rfl, Nat.le_of_ble_eq_true rfl⟩ rfl (Nat.le_of_ble_eq_true rfl) ⟨Nat.le_of_ble_eq_true rfl, Nat.le_of_ble_eq_true rfl⟩ rfl dX10_back_4) h (fun r_763 f_764 H locs p_765 h => ?_)
  obtain ⟨e_, rfl⟩ := p_765
  subst e_
  exact q_iret C h hr (⟨rfl, fun q hq => rfl⟩) (Nat.le_of_ble_eq_true rfl) (Nat.le_of_ble_eq_true rfl) dX10_back_7
set_option maxRecDepth 100000 in
set_option maxHeartbeats 4000000 in
theorem c_X10_image (l : Launch) (D : va_G) (G : Nat → Nat) (b0 : Nat) (f : hM) (bm : Nat) (X : Nat → Nat) (hX : xw G f X) (hB : ∀ i, i < 20 → X i < bm) : mI l yX10_image cX10_image 1 (.int) { frames := 2, cells := 0, slots := 0, locals := 42 } D G b0 f [.ref (X 0)] (fun r f1 => (0 : Int32) = r ∧ ∀ q, bm ≤ q → f1 q = f q) := by
  refine met_of (own := RX10) (by decide) rfl (Nat.le_of_ble_eq_true rfl) ?_
  intro p e s m below meth c ls C hr hini hl h
  have hl : lv_has ls 1 [(0, .ref (X 0))] := hl
  obtain ⟨hx, hb, hml, hown, hts, hE0, hlk⟩ := id C
  obtain ⟨kx0, kx1, kx2, kx3, kx4, kx5, kx6, kx7, kx8, kx9⟩ := hX
  refine lv_aload_n hx hb dX10_image_0 rfl (lv_at hl 0 rfl) ?_
  refine q_get C h kx0 fl_X10_19 (v := .ref (X 2)) rfl dX10_image_1 ?_
  refine k_i (r_V C h hl (As := []) (rest := []) (c_X0_keep l D G b0 f bm X ⟨kx0, kx1, kx2, kx3, kx4, kx5, kx6, kx7, kx8, kx9⟩ hB ) kx2 (Cn := RX0) (T := TX0) (N := 6) rfl rfl mk_X0_keep w_1297 w_1298 w_1299 w_1300 ⟨Nat.le_of_ble_eq_true rfl, Nat.le_of_ble_eq_true rfl⟩ rfl (Nat.le_of_ble_eq_true rfl) ⟨Nat.le_of_ble_eq_true rfl, Nat.le_of_ble_eq_true rfl⟩ rfl dX10_image_4) h (fun r_766 f_767 H locs p_768 h => ?_)
  obtain ⟨rfl, p_768⟩ := p_768
  exact q_iret C h hr (⟨rfl, fun q hq => (p_768 q hq)⟩) (Nat.le_of_ble_eq_true rfl) (Nat.le_of_ble_eq_true rfl) dX10_image_7
set_option maxRecDepth 100000 in
set_option maxHeartbeats 4000000 in
theorem c_X10_end (l : Launch) (D : va_G) (G : Nat → Nat) (b0 : Nat) (f : hM) (bm : Nat) (X : Nat → Nat) (hX : xw G f X) (hB : ∀ i, i < 20 → X i < bm) (p0 : Int32) : mI l yX10_end cX10_end 2 (.boolean) { frames := 1, cells := 0, slots := 0, locals := 22 } D G b0 f [.ref (X 0), .int p0] (fun r f1 => (wi p0 0 0 : Int32) = r ∧ ∀ q, bm ≤ q → f1 q = f q) := by
  refine met_of (own := RX10) (by decide) rfl (Nat.le_of_ble_eq_true rfl) ?_
  intro p e s m below meth c ls C hr hini hl h
  have hl : lv_has ls 2 [(0, .ref (X 0)), (1, .int p0)] := hl
  obtain ⟨hx, hb, hml, hown, hts, hE0, hlk⟩ := id C
  obtain ⟨kx0, kx1, kx2, kx3, kx4, kx5, kx6, kx7, kx8, kx9⟩ := hX
  refine lv_iload_n hx hb dX10_end_0 rfl (lv_at hl 1 rfl) ?_
  refine lv_iconst (v := 0) hx hb dX10_end_1 (by decide) ?_
  refine lv_aload_n hx hb dX10_end_2 rfl (lv_at hl 0 rfl) ?_
  refine q_get C h kx0 fl_X10_12 (v := .ref (X 1)) rfl dX10_end_3 ?_
  refine q_get C h kx1 fl_X10_79 (v := .int 0) rfl dX10_end_6 ?_
  refine k_i (r_S C h hl (As := [.int p0, .int 0, .int 0]) (rest := []) (c_X10_within l D G b0 f  p0 0 0) mk_X10_within w_425 w_426 w_427 ⟨Nat.le_of_ble_eq_true rfl, Nat.le_of_ble_eq_true rfl⟩ rfl (Nat.le_of_ble_eq_true rfl) ⟨Nat.le_of_ble_eq_true rfl, Nat.le_of_ble_eq_true rfl⟩ rfl dX10_end_9) h (fun r_769 f_770 H locs p_771 h => ?_)
  obtain ⟨e_, rfl⟩ := p_771
  subst e_
  refine lv_if_ne (tgt := 17) hx hb dX10_end_12 (by decide) (fun c_772 => ?_) (fun c_772 => ?_)
  · refine lv_aload_n hx hb dX10_end_17 rfl (lv_at hl 0 rfl) ?_
    refine q_get C h kx0 fl_X10_12 (v := .ref (X 1)) rfl dX10_end_18 ?_
    refine lv_iload_n hx hb dX10_end_21 rfl (lv_at hl 1 rfl) ?_
    refine q_put C h kx1 flw_X10_79 (Or.inr ⟨_, _, _, rfl, rfl⟩) (v := .int p0) rfl rfl (Nat.le_of_ble_eq_true rfl) dX10_end_22 (fun H locs h => ?_)
    have h : hw D b0 s.heap (hu f (X 1) (.inr (8, [.int p0, .ref (X 11), .ref (X 12), .int 0, .int 0, .int 0, .int 0]))) H locs := h
    generalize ef_773 : hu f (X 1) (.inr (8, [.int p0, .ref (X 11), .ref (X 12), .int 0, .int 0, .int 0, .int 0])) = f_773 at h
    have k_774 : f_773 (X 0) = some (.inr (11, [.ref (X 1), .ref (X 2), .ref (X 3), .ref (X 4), .ref (X 5), .ref (X 6), .ref (X 7), .ref (X 8), .ref (X 9), .ref (X 10)])) := by rw [← ef_773]; exact hu_at kx0 (hne (4, 8) (4, 11) kx1 kx0 rfl rfl (by decide))
    have k_775 : f_773 (X 2) = some (.inr (1, [.int 0, .ref (X 13), .ref (X 14), .ref (X 15), .int 0, .int 0])) := by rw [← ef_773]; exact hu_at kx2 (hne (4, 8) (4, 1) kx1 kx2 rfl rfl (by decide))
    have k_776 : f_773 (X 8) = some (.inl (G 1, 4, .inl (fun _ => 0))) := by rw [← ef_773]; exact hu_at kx3 (hne (4, 8) (1, 4) kx1 kx3 rfl rfl (by decide))
    have k_777 : f_773 (X 11) = some (.inl (G 1, 200, .inl (fun _ => 0))) := by rw [← ef_773]; exact hu_at kx4 (hne (4, 8) (1, 200) kx1 kx4 rfl rfl (by decide))
    have k_778 : f_773 (X 12) = some (.inl (G 1, 8, .inl (fun _ => 0))) := by rw [← ef_773]; exact hu_at kx5 (hne (4, 8) (1, 8) kx1 kx5 rfl rfl (by decide))
    have k_779 : f_773 (X 13) = some (.inr (6, [.ref (X 16), .int 0])) := by rw [← ef_773]; exact hu_at kx6 (hne (4, 8) (4, 6) kx1 kx6 rfl rfl (by decide))
    have k_780 : f_773 (X 14) = some (.inr (6, [.ref (X 17), .int 0])) := by rw [← ef_773]; exact hu_at kx7 (hne (4, 8) (4, 6) kx1 kx7 rfl rfl (by decide))
    have k_781 : f_773 (X 16) = some (.inl (G 4, 8, .inr (.inr (.inr (.inr (fun _ => none)))))) := by rw [← ef_773]; exact hu_at kx8 (hne (4, 8) (3, 8) kx1 kx8 rfl rfl (by decide))
    have k_782 : f_773 (X 17) = some (.inl (G 4, 8, .inr (.inr (.inr (.inr (fun _ => none)))))) := by rw [← ef_773]; exact hu_at kx9 (hne (4, 8) (3, 8) kx1 kx9 rfl rfl (by decide))
    have k_783 : f_773 (X 1) = some (.inr (8, [.int p0, .ref (X 11), .ref (X 12), .int 0, .int 0, .int 0, .int 0])) := by rw [← ef_773]; exact hu_self _ _ _
    refine lv_iconst (v := 1) hx hb dX10_end_25 (by decide) ?_
    exact q_zret C h hr (Or.inr rfl) (⟨(wi_01 p0 0 0).resolve_left c_772, fun q hq => ((congrFun ef_773.symm q).trans (hu_ne (Nat.ne_of_gt (Nat.lt_of_lt_of_le (hB 1 (by decide)) hq))))⟩) (Nat.le_of_ble_eq_true rfl) (Nat.le_of_ble_eq_true rfl) dX10_end_26
  · refine lv_iconst (v := 0) hx hb dX10_end_15 (by decide) ?_
    exact q_zret C h hr (Or.inl rfl) (⟨c_772, fun q hq => rfl⟩) (Nat.le_of_ble_eq_true rfl) (Nat.le_of_ble_eq_true rfl) dX10_end_16
set_option maxRecDepth 100000 in
set_option maxHeartbeats 4000000 in
theorem c_X10_status (l : Launch) (D : va_G) (G : Nat → Nat) (b0 : Nat) (f : hM) (bm : Nat) (X : Nat → Nat) (hX : xw G f X) (hB : ∀ i, i < 20 → X i < bm) (p0 : Int32) : mI l yX10_status cX10_status 2 (.int) { frames := 1, cells := 0, slots := 0, locals := 22 } D G b0 f [.ref (X 0), .int p0] (fun r f1 => (Vstatus p0 : Int32) = r ∧ ∀ q, bm ≤ q → f1 q = f q) := by
  refine met_of (own := RX10) (by decide) rfl (Nat.le_of_ble_eq_true rfl) ?_
  intro p e s m below meth c ls C hr hini hl h
  have hl : lv_has ls 2 [(0, .ref (X 0)), (1, .int p0)] := hl
  obtain ⟨hx, hb, hml, hown, hts, hE0, hlk⟩ := id C
  obtain ⟨kx0, kx1, kx2, kx3, kx4, kx5, kx6, kx7, kx8, kx9⟩ := hX
  refine lv_iload_n hx hb dX10_status_0 rfl (lv_at hl 1 rfl) ?_
  refine lv_iconst (v := 0) hx hb dX10_status_1 (by decide) ?_
  refine lv_aload_n hx hb dX10_status_2 rfl (lv_at hl 0 rfl) ?_
  refine q_get C h kx0 fl_X10_60 (v := .ref (X 8)) rfl dX10_status_3 ?_
  refine q_alen C h 1 rfl kx3 (v := 4) rfl dX10_status_6 ?_
  refine lv_iconst (v := 1) hx hb dX10_status_7 (by decide) ?_
  refine lv_isub hx hb dX10_status_8 ?_
  refine lv_topi (fun x_ e_ => ?_)
  obtain rfl : 3 = x_ := by rw [e_]; decide
  refine k_i (r_S C h hl (As := [.int p0, .int 0, .int 3]) (rest := []) (c_X10_within l D G b0 f  p0 0 3) mk_X10_within w_425 w_426 w_427 ⟨Nat.le_of_ble_eq_true rfl, Nat.le_of_ble_eq_true rfl⟩ rfl (Nat.le_of_ble_eq_true rfl) ⟨Nat.le_of_ble_eq_true rfl, Nat.le_of_ble_eq_true rfl⟩ rfl dX10_status_9) h (fun r_784 f_785 H locs p_786 h => ?_)
  obtain ⟨e_, rfl⟩ := p_786
  subst e_
  refine lv_if_eq (tgt := 24) hx hb dX10_status_12 (by decide) (fun c_787 => ?_) (fun c_787 => ?_)
  · refine lv_iconst (v := -1) hx hb dX10_status_24 (by decide) ?_
    exact q_iret C h hr (⟨by unfold Vstatus; rw [if_pos c_787], fun q hq => rfl⟩) (Nat.le_of_ble_eq_true rfl) (Nat.le_of_ble_eq_true rfl) dX10_status_25
  · refine lv_aload_n hx hb dX10_status_15 rfl (lv_at hl 0 rfl) ?_
    refine q_get C h kx0 fl_X10_60 (v := .ref (X 8)) rfl dX10_status_16 ?_
    refine lv_iload_n hx hb dX10_status_19 rfl (lv_at hl 1 rfl) ?_
    refine q_iald C h kx3 (vp_wi c_787) dX10_status_20 ?_
    refine lv_topi (fun x_ e_ => ?_)
    obtain rfl : 0 = x_ := e_.symm
    refine lv_goto (tgt := 25) hx hb dX10_status_21 (by decide) ?_
    exact q_iret C h hr (⟨by unfold Vstatus; rw [if_neg c_787], fun q hq => rfl⟩) (Nat.le_of_ble_eq_true rfl) (Nat.le_of_ble_eq_true rfl) dX10_status_25
set_option maxRecDepth 100000 in
set_option maxHeartbeats 4000000 in
theorem c_X10_most (l : Launch) (D : va_G) (G : Nat → Nat) (b0 : Nat) (f : hM) (bm : Nat) (X : Nat → Nat) (hX : xw G f X) (hB : ∀ i, i < 20 → X i < bm) (p0 : Int32) : mI l yX10_most cX10_most 2 (.int) { frames := 2, cells := 0, slots := 0, locals := 42 } D G b0 f [.ref (X 0), .int p0] (fun r f1 => (Vmost p0 : Int32) = r ∧ ∀ q, bm ≤ q → f1 q = f q) := by
  refine met_of (own := RX10) (by decide) rfl (Nat.le_of_ble_eq_true rfl) ?_
  intro p e s m below meth c ls C hr hini hl h
  have hl : lv_has ls 2 [(0, .ref (X 0)), (1, .int p0)] := hl
  obtain ⟨hx, hb, hml, hown, hts, hE0, hlk⟩ := id C
  obtain ⟨kx0, kx1, kx2, kx3, kx4, kx5, kx6, kx7, kx8, kx9⟩ := hX
  refine lv_iload_n hx hb dX10_most_0 rfl (lv_at hl 1 rfl) ?_
  refine lv_iconst (v := 0) hx hb dX10_most_1 (by decide) ?_
  refine lv_iconst (v := 4) hx hb dX10_most_2 (by decide) ?_
  refine k_i (r_S C h hl (As := [.int p0, .int 0, .int 4]) (rest := []) (c_X10_within l D G b0 f  p0 0 4) mk_X10_within w_425 w_426 w_427 ⟨Nat.le_of_ble_eq_true rfl, Nat.le_of_ble_eq_true rfl⟩ rfl (Nat.le_of_ble_eq_true rfl) ⟨Nat.le_of_ble_eq_true rfl, Nat.le_of_ble_eq_true rfl⟩ rfl dX10_most_3) h (fun r_788 f_789 H locs p_790 h => ?_)
  obtain ⟨e_, rfl⟩ := p_790
  subst e_
  refine lv_if_ne (tgt := 11) hx hb dX10_most_6 (by decide) (fun c_791 => ?_) (fun c_791 => ?_)
  · refine lv_iload_n hx hb dX10_most_11 rfl (lv_at hl 1 rfl) ?_
    refine lv_iconst (v := 3) hx hb dX10_most_12 (by decide) ?_
    refine lv_icmp_ne (tgt := 21) hx hb dX10_most_13 (by decide) (fun c_792 => ?_) (fun c_792 => ?_)
    · refine lv_aload_n hx hb dX10_most_21 rfl (lv_at hl 0 rfl) ?_
      refine q_get C h kx0 fl_X10_19 (v := .ref (X 2)) rfl dX10_most_22 ?_
      refine k_i (r_V C h hl (As := []) (rest := []) (c_X0_size l D G b0 f X ⟨kx0, kx1, kx2, kx3, kx4, kx5, kx6, kx7, kx8, kx9⟩ ) kx2 (Cn := RX0) (T := TX0) (N := 6) rfl rfl mk_X0_size w_1321 w_1322 w_1323 w_1324 ⟨Nat.le_of_ble_eq_true rfl, Nat.le_of_ble_eq_true rfl⟩ rfl (Nat.le_of_ble_eq_true rfl) ⟨Nat.le_of_ble_eq_true rfl, Nat.le_of_ble_eq_true rfl⟩ rfl dX10_most_25) h (fun r_793 f_794 H locs p_795 h => ?_)
      obtain ⟨e_, rfl⟩ := p_795
      subst e_
      refine lv_if_ne (tgt := 33) hx hb dX10_most_28 (by decide) (fun c_796 => ?_) (fun c_796 => ?_)
      · exact absurd c_796 (by decide)
      · refine lv_iconst (v := -1) hx hb dX10_most_31 (by decide) ?_
        exact q_iret C h hr (⟨by simp [Vmost, c_792], fun q hq => rfl⟩) (Nat.le_of_ble_eq_true rfl) (Nat.le_of_ble_eq_true rfl) dX10_most_32
    · refine lv_aload_n hx hb dX10_most_16 rfl (lv_at hl 0 rfl) ?_
      refine k_i (r_V C h hl (As := []) (rest := []) (c_X10_unlikeSets l D G b0 f X ⟨kx0, kx1, kx2, kx3, kx4, kx5, kx6, kx7, kx8, kx9⟩ ) kx0 (Cn := RX10) (T := TX10) (N := 10) rfl rfl mk_X10_unlikeSets w_1317 w_1319 w_32 w_1320 ⟨Nat.le_of_ble_eq_true rfl, Nat.le_of_ble_eq_true rfl⟩ rfl (Nat.le_of_ble_eq_true rfl) ⟨Nat.le_of_ble_eq_true rfl, Nat.le_of_ble_eq_true rfl⟩ rfl dX10_most_17) h (fun r_797 f_798 H locs p_799 h => ?_)
      obtain ⟨e_, rfl⟩ := p_799
      subst e_
      exact q_iret C h hr (⟨by simp [Vmost, c_792], fun q hq => rfl⟩) (Nat.le_of_ble_eq_true rfl) (Nat.le_of_ble_eq_true rfl) dX10_most_20
  · refine lv_iconst (v := -1) hx hb dX10_most_9 (by decide) ?_
    exact q_iret C h hr (⟨Vmost_x c_791, fun q hq => rfl⟩) (Nat.le_of_ble_eq_true rfl) (Nat.le_of_ble_eq_true rfl) dX10_most_10
set_option maxRecDepth 100000 in
set_option maxHeartbeats 4000000 in
theorem c_X10_count (l : Launch) (D : va_G) (G : Nat → Nat) (b0 : Nat) (f : hM) (bm : Nat) (X : Nat → Nat) (hX : xw G f X) (hB : ∀ i, i < 20 → X i < bm) (p0 : Int32) : mI l yX10_count cX10_count 2 (.int) { frames := 1, cells := 0, slots := 0, locals := 20 } D G b0 f [.ref (X 0), .int p0] (fun r f1 => (Vcount p0 : Int32) = r ∧ ∀ q, bm ≤ q → f1 q = f q) := by
  refine met_of (own := RX10) (by decide) rfl (Nat.le_of_ble_eq_true rfl) ?_
  intro p e s m below meth c ls C hr hini hl h
  have hl : lv_has ls 2 [(0, .ref (X 0)), (1, .int p0)] := hl
  obtain ⟨hx, hb, hml, hown, hts, hE0, hlk⟩ := id C
  obtain ⟨kx0, kx1, kx2, kx3, kx4, kx5, kx6, kx7, kx8, kx9⟩ := hX
  refine lv_iload_n hx hb dX10_count_0 rfl (lv_at hl 1 rfl) ?_
  rcases sw_0_2 p0 with c_800 | c_800 | c_800 | c_800
  · refine lv_tableIn (tgt := 28) hx hb dX10_count_1 (by rw [c_800]; decide) (by rw [c_800]; decide) (off := 27) (by rw [c_800]; rfl) (by decide) ?_
    refine lv_aload_n hx hb dX10_count_28 rfl (lv_at hl 0 rfl) ?_
    refine q_get C h kx0 fl_X10_12 (v := .ref (X 1)) rfl dX10_count_29 ?_
    refine q_get C h kx1 fl_X10_79 (v := .int 0) rfl dX10_count_32 ?_
    exact q_iret C h hr (⟨by unfold Vcount; rw [c_800]; rfl, fun q hq => rfl⟩) (Nat.le_of_ble_eq_true rfl) (Nat.le_of_ble_eq_true rfl) dX10_count_35
  · refine lv_tableIn (tgt := 36) hx hb dX10_count_1 (by rw [c_800]; decide) (by rw [c_800]; decide) (off := 35) (by rw [c_800]; rfl) (by decide) ?_
    refine lv_aload_n hx hb dX10_count_36 rfl (lv_at hl 0 rfl) ?_
    refine q_get C h kx0 fl_X10_19 (v := .ref (X 2)) rfl dX10_count_37 ?_
    refine q_get C h kx2 fl_X10_379 (v := .int 0) rfl dX10_count_40 ?_
    exact q_iret C h hr (⟨by unfold Vcount; rw [c_800]; rfl, fun q hq => rfl⟩) (Nat.le_of_ble_eq_true rfl) (Nat.le_of_ble_eq_true rfl) dX10_count_43
  · refine lv_tableIn (tgt := 44) hx hb dX10_count_1 (by rw [c_800]; decide) (by rw [c_800]; decide) (off := 43) (by rw [c_800]; rfl) (by decide) ?_
    refine lv_aload_n hx hb dX10_count_44 rfl (lv_at hl 0 rfl) ?_
    refine q_get C h kx0 fl_X10_19 (v := .ref (X 2)) rfl dX10_count_45 ?_
    refine k_i (r_V C h hl (As := []) (rest := []) (c_X0_size l D G b0 f X ⟨kx0, kx1, kx2, kx3, kx4, kx5, kx6, kx7, kx8, kx9⟩ ) kx2 (Cn := RX0) (T := TX0) (N := 6) rfl rfl mk_X0_size w_1321 w_1322 w_1323 w_1324 ⟨Nat.le_of_ble_eq_true rfl, Nat.le_of_ble_eq_true rfl⟩ rfl (Nat.le_of_ble_eq_true rfl) ⟨Nat.le_of_ble_eq_true rfl, Nat.le_of_ble_eq_true rfl⟩ rfl dX10_count_48) h (fun r_801 f_802 H locs p_803 h => ?_)
    obtain ⟨e_, rfl⟩ := p_803
    subst e_
    exact q_iret C h hr (⟨by unfold Vcount; rw [c_800]; rfl, fun q hq => rfl⟩) (Nat.le_of_ble_eq_true rfl) (Nat.le_of_ble_eq_true rfl) dX10_count_51
  · refine lv_tableOut (tgt := 52) hx hb dX10_count_1 c_800 (by decide) ?_
    refine lv_iconst (v := -1) hx hb dX10_count_52 (by decide) ?_
    exact q_iret C h hr (⟨Vcount_x c_800, fun q hq => rfl⟩) (Nat.le_of_ble_eq_true rfl) (Nat.le_of_ble_eq_true rfl) dX10_count_53
end
