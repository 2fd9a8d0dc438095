theorem dJ0_coder_7d493_0 : decode cJ0_coder_7d493 0 = .ok (.getstatic 38, 3) := by decide +kernel
theorem w_480 : Cond.fieldLink "java/lang/String" 38 "java/lang/String" "COMPACT_STRINGS" "Z" ∈ wAll := wIn 480 (by decide +kernel) (by decide +kernel)
theorem dJ0_coder_7d493_3 : decode cJ0_coder_7d493 3 = .ok (.ifCond .eq 10, 3) := by decide +kernel
theorem dJ0_coder_7d493_6 : decode cJ0_coder_7d493 6 = .ok (.aload_n 0, 1) := by decide +kernel
theorem dJ0_coder_7d493_7 : decode cJ0_coder_7d493 7 = .ok (.getfield 15, 3) := by decide +kernel
theorem w_2092 : Cond.fieldLink "java/lang/String" 15 "java/lang/String" "coder" "B" ∈ wAll := wIn 2092 (by decide +kernel) (by decide +kernel)
theorem dJ0_coder_7d493_10 : decode cJ0_coder_7d493 10 = .ok (.goto 4, 3) := by decide +kernel
theorem dJ0_coder_7d493_14 : decode cJ0_coder_7d493 14 = .ok (.ireturn, 1) := by decide +kernel
theorem dJ0_length_8abf5_0 : decode cJ0_length_8abf5 0 = .ok (.aload_n 0, 1) := by decide +kernel
theorem dJ0_length_8abf5_1 : decode cJ0_length_8abf5 1 = .ok (.getfield 9, 3) := by decide +kernel
theorem w_2093 : Cond.fieldLink "java/lang/String" 9 "java/lang/String" "value" "[B" ∈ wAll := wIn 2093 (by decide +kernel) (by decide +kernel)
theorem dJ0_length_8abf5_4 : decode cJ0_length_8abf5 4 = .ok (.arraylength, 1) := by decide +kernel
theorem dJ0_length_8abf5_5 : decode cJ0_length_8abf5 5 = .ok (.aload_n 0, 1) := by decide +kernel
theorem dJ0_length_8abf5_6 : decode cJ0_length_8abf5 6 = .ok (.invokevirtual 335, 3) := by decide +kernel
theorem w_1255 : Cond.methodLink "java/lang/String" 335 yJ0_coder_7d493 ∈ wAll := wIn 1255 (by decide +kernel) (by decide +kernel)
theorem w_1257 : Cond.selects yJ0_coder_7d493.cls yJ0_coder_7d493 yJ0_coder_7d493 ∈ wAll := wIn 1257 (by decide +kernel) (by decide +kernel)
theorem w_108 : Cond.initialized "java/lang/String" ∈ wAll := wIn 108 (by decide +kernel) (by decide +kernel)
theorem mk_J0_coder_7d493 : mk yJ0_coder_7d493 0 := ⟨by decide +kernel, w_108⟩
theorem w_1256 : Cond.instanceMethod yJ0_coder_7d493 ∈ wAll := wIn 1256 (by decide +kernel) (by decide +kernel)
theorem w_1258 : Cond.code yJ0_coder_7d493 cJ0_coder_7d493 1 (some .byte) ∈ wAll := wIn 1258 (by decide +kernel) (by decide +kernel)
theorem dJ0_length_8abf5_9 : decode cJ0_length_8abf5 9 = .ok (.ishr, 1) := by decide +kernel
theorem dJ0_length_8abf5_10 : decode cJ0_length_8abf5 10 = .ok (.ireturn, 1) := by decide +kernel
theorem dX11_here_0 : decode cX11_here 0 = .ok (.aload_n 0, 1) := by decide +kernel
theorem dX11_here_1 : decode cX11_here 1 = .ok (.getfield 90, 3) := by decide +kernel
theorem w_1436 : Cond.fieldLink "QuarterWalksModel" 90 "QuarterWalksModel" "at" "I" ∈ wAll := wIn 1436 (by decide +kernel) (by decide +kernel)
theorem fl_X11_90 : fl RX11 90 12 3 := ⟨RX11, TX11, 32, rfl, inA_X11, by decide, w_1436⟩
theorem dX11_here_4 : decode cX11_here 4 = .ok (.aload_n 0, 1) := by decide +kernel
theorem dX11_here_5 : decode cX11_here 5 = .ok (.getfield 79, 3) := by decide +kernel
theorem w_1435 : Cond.fieldLink "QuarterWalksModel" 79 "QuarterWalksModel" "length" "I" ∈ wAll := wIn 1435 (by decide +kernel) (by decide +kernel)
theorem fl_X11_79 : fl RX11 79 12 2 := ⟨RX11, TX11, 32, rfl, inA_X11, by decide, w_1435⟩
theorem dX11_here_8 : decode cX11_here 8 = .ok (.if_icmp .ge 19, 3) := by decide +kernel
theorem dX11_here_27 : decode cX11_here 27 = .ok (.iconst (-1), 1) := by decide +kernel
theorem dX11_here_28 : decode cX11_here 28 = .ok (.ireturn, 1) := by decide +kernel
theorem dX11_look_0 : decode cX11_look 0 = .ok (.aload_n 0, 1) := by decide +kernel
theorem dX11_look_1 : decode cX11_look 1 = .ok (.invokevirtual 93, 3) := by decide +kernel
theorem w_1565 : Cond.methodLink "QuarterWalksModel" 93 yX11_here ∈ wAll := wIn 1565 (by decide +kernel) (by decide +kernel)
theorem w_41 : Cond.selects yX11_here.cls yX11_here yX11_here ∈ wAll := wIn 41 (by decide +kernel) (by decide +kernel)
theorem mk_X11_here : mk yX11_here 0 := ⟨by decide +kernel, w_110⟩
theorem w_1567 : Cond.instanceMethod yX11_here ∈ wAll := wIn 1567 (by decide +kernel) (by decide +kernel)
theorem w_1568 : Cond.code yX11_here cX11_here 1 (some .int) ∈ wAll := wIn 1568 (by decide +kernel) (by decide +kernel)
theorem dX11_look_4 : decode cX11_look 4 = .ok (.bipush 32, 2) := by decide +kernel
theorem dX11_look_6 : decode cX11_look 6 = .ok (.if_icmp .ne 16, 3) := by decide +kernel
theorem dX11_look_22 : decode cX11_look 22 = .ok (.aload_n 0, 1) := by decide +kernel
theorem dX11_look_23 : decode cX11_look 23 = .ok (.invokevirtual 93, 3) := by decide +kernel
theorem dX11_look_26 : decode cX11_look 26 = .ok (.ireturn, 1) := by decide +kernel
theorem dX11_word_0 : decode cX11_word 0 = .ok (.aload_n 0, 1) := by decide +kernel
theorem dX11_word_1 : decode cX11_word 1 = .ok (.invokevirtual 100, 3) := by decide +kernel
theorem w_1561 : Cond.methodLink "QuarterWalksModel" 100 yX11_look ∈ wAll := wIn 1561 (by decide +kernel) (by decide +kernel)
theorem w_40 : Cond.selects yX11_look.cls yX11_look yX11_look ∈ wAll := wIn 40 (by decide +kernel) (by decide +kernel)
theorem mk_X11_look : mk yX11_look 0 := ⟨by decide +kernel, w_110⟩
theorem w_1563 : Cond.instanceMethod yX11_look ∈ wAll := wIn 1563 (by decide +kernel) (by decide +kernel)
theorem w_1564 : Cond.code yX11_look cX11_look 1 (some .int) ∈ wAll := wIn 1564 (by decide +kernel) (by decide +kernel)
theorem dX11_word_4 : decode cX11_word 4 = .ok (.istore_n 2, 1) := by decide +kernel
theorem dX11_word_5 : decode cX11_word 5 = .ok (.iconst 0, 1) := by decide +kernel
theorem dX11_word_6 : decode cX11_word 6 = .ok (.istore_n 3, 1) := by decide +kernel
theorem dX11_word_7 : decode cX11_word 7 = .ok (.iload_n 3, 1) := by decide +kernel
theorem dX11_word_8 : decode cX11_word 8 = .ok (.aload_n 1, 1) := by decide +kernel
theorem dX11_word_9 : decode cX11_word 9 = .ok (.invokevirtual 103, 3) := by decide +kernel
theorem w_1578 : Cond.methodLink "QuarterWalksModel" 103 yJ0_length_8abf5 ∈ wAll := wIn 1578 (by decide +kernel) (by decide +kernel)
theorem w_1253 : Cond.selects yJ0_length_8abf5.cls yJ0_length_8abf5 yJ0_length_8abf5 ∈ wAll := wIn 1253 (by decide +kernel) (by decide +kernel)
theorem mk_J0_length_8abf5 : mk yJ0_length_8abf5 0 := ⟨by decide +kernel, w_108⟩
theorem w_1252 : Cond.instanceMethod yJ0_length_8abf5 ∈ wAll := wIn 1252 (by decide +kernel) (by decide +kernel)
theorem w_1254 : Cond.code yJ0_length_8abf5 cJ0_length_8abf5 1 (some .int) ∈ wAll := wIn 1254 (by decide +kernel) (by decide +kernel)
theorem dX11_word_12 : decode cX11_word 12 = .ok (.if_icmp .ge 43, 3) := by decide +kernel
theorem dX11_word_15 : decode cX11_word 15 = .ok (.aload_n 0, 1) := by decide +kernel
theorem dX11_word_16 : decode cX11_word 16 = .ok (.getfield 90, 3) := by decide +kernel
theorem dX11_word_19 : decode cX11_word 19 = .ok (.iload_n 3, 1) := by decide +kernel
theorem dX11_word_20 : decode cX11_word 20 = .ok (.iadd, 1) := by decide +kernel
theorem dX11_word_21 : decode cX11_word 21 = .ok (.aload_n 0, 1) := by decide +kernel
theorem dX11_word_22 : decode cX11_word 22 = .ok (.getfield 79, 3) := by decide +kernel
theorem dX11_word_25 : decode cX11_word 25 = .ok (.if_icmp .ge 22, 3) := by decide +kernel
theorem dX11_word_47 : decode cX11_word 47 = .ok (.iconst 0, 1) := by decide +kernel
theorem dX11_word_48 : decode cX11_word 48 = .ok (.ireturn, 1) := by decide +kernel
theorem dX11_stepHere_0 : decode cX11_stepHere 0 = .ok (.aload_n 0, 1) := by decide +kernel
theorem dX11_stepHere_1 : decode cX11_stepHere 1 = .ok (.ldc 114, 2) := by decide +kernel
theorem dX11_stepHere_3 : decode cX11_stepHere 3 = .ok (.invokevirtual 116, 3) := by decide +kernel
theorem w_1574 : Cond.methodLink "QuarterWalksModel" 116 yX11_word ∈ wAll := wIn 1574 (by decide +kernel) (by decide +kernel)
theorem w_43 : Cond.selects yX11_word.cls yX11_word yX11_word ∈ wAll := wIn 43 (by decide +kernel) (by decide +kernel)
theorem mk_X11_word : mk yX11_word 1 := ⟨by decide +kernel, w_110⟩
theorem w_1576 : Cond.instanceMethod yX11_word ∈ wAll := wIn 1576 (by decide +kernel) (by decide +kernel)
theorem w_1577 : Cond.code yX11_word cX11_word 4 (some .boolean) ∈ wAll := wIn 1577 (by decide +kernel) (by decide +kernel)
theorem dX11_stepHere_6 : decode cX11_stepHere 6 = .ok (.ifCond .eq 5, 3) := by decide +kernel
theorem dX11_stepHere_11 : decode cX11_stepHere 11 = .ok (.aload_n 0, 1) := by decide +kernel
theorem dX11_stepHere_12 : decode cX11_stepHere 12 = .ok (.ldc 120, 2) := by decide +kernel
theorem dX11_stepHere_14 : decode cX11_stepHere 14 = .ok (.invokevirtual 116, 3) := by decide +kernel
theorem dX11_stepHere_17 : decode cX11_stepHere 17 = .ok (.ifCond .eq 5, 3) := by decide +kernel
theorem dX11_stepHere_22 : decode cX11_stepHere 22 = .ok (.aload_n 0, 1) := by decide +kernel
theorem dX11_stepHere_23 : decode cX11_stepHere 23 = .ok (.ldc 122, 2) := by decide +kernel
theorem dX11_stepHere_25 : decode cX11_stepHere 25 = .ok (.invokevirtual 116, 3) := by decide +kernel
theorem dX11_stepHere_28 : decode cX11_stepHere 28 = .ok (.ifCond .eq 5, 3) := by decide +kernel
theorem dX11_stepHere_33 : decode cX11_stepHere 33 = .ok (.aload_n 0, 1) := by decide +kernel
theorem dX11_stepHere_34 : decode cX11_stepHere 34 = .ok (.ldc 124, 2) := by decide +kernel
theorem dX11_stepHere_36 : decode cX11_stepHere 36 = .ok (.invokevirtual 116, 3) := by decide +kernel
theorem dX11_stepHere_39 : decode cX11_stepHere 39 = .ok (.ifCond .eq 5, 3) := by decide +kernel
theorem dX11_stepHere_44 : decode cX11_stepHere 44 = .ok (.aload_n 0, 1) := by decide +kernel
theorem dX11_stepHere_45 : decode cX11_stepHere 45 = .ok (.ldc 126, 2) := by decide +kernel
theorem dX11_stepHere_47 : decode cX11_stepHere 47 = .ok (.invokevirtual 116, 3) := by decide +kernel
theorem dX11_stepHere_50 : decode cX11_stepHere 50 = .ok (.ifCond .eq 5, 3) := by decide +kernel
theorem dX11_stepHere_55 : decode cX11_stepHere 55 = .ok (.aload_n 0, 1) := by decide +kernel
theorem dX11_stepHere_56 : decode cX11_stepHere 56 = .ok (.ldc 128, 2) := by decide +kernel
theorem dX11_stepHere_58 : decode cX11_stepHere 58 = .ok (.invokevirtual 116, 3) := by decide +kernel
theorem dX11_stepHere_61 : decode cX11_stepHere 61 = .ok (.ifCond .eq 5, 3) := by decide +kernel
theorem dX11_stepHere_66 : decode cX11_stepHere 66 = .ok (.aload_n 0, 1) := by decide +kernel
theorem dX11_stepHere_67 : decode cX11_stepHere 67 = .ok (.ldc 130, 2) := by decide +kernel
theorem dX11_stepHere_69 : decode cX11_stepHere 69 = .ok (.invokevirtual 116, 3) := by decide +kernel
theorem dX11_stepHere_72 : decode cX11_stepHere 72 = .ok (.ifCond .eq 6, 3) := by decide +kernel
theorem dX11_stepHere_78 : decode cX11_stepHere 78 = .ok (.aload_n 0, 1) := by decide +kernel
theorem dX11_stepHere_79 : decode cX11_stepHere 79 = .ok (.ldc 132, 2) := by decide +kernel
theorem dX11_stepHere_81 : decode cX11_stepHere 81 = .ok (.invokevirtual 116, 3) := by decide +kernel
theorem dX11_stepHere_84 : decode cX11_stepHere 84 = .ok (.ifCond .eq 8, 3) := by decide +kernel
theorem dX11_stepHere_92 : decode cX11_stepHere 92 = .ok (.iconst (-1), 1) := by decide +kernel
theorem dX11_stepHere_93 : decode cX11_stepHere 93 = .ok (.ireturn, 1) := by decide +kernel
theorem dX11_fails_0 : decode cX11_fails 0 = .ok (.aload_n 0, 1) := by decide +kernel
theorem dX11_fails_1 : decode cX11_fails 1 = .ok (.getfield 97, 3) := by decide +kernel
theorem w_1437 : Cond.fieldLink "QuarterWalksModel" 97 "QuarterWalksModel" "fault" "I" ∈ wAll := wIn 1437 (by decide +kernel) (by decide +kernel)
theorem fl_X11_97 : fl RX11 97 12 4 := ⟨RX11, TX11, 32, rfl, inA_X11, by decide, w_1437⟩
theorem dX11_fails_4 : decode cX11_fails 4 = .ok (.iconst (-1), 1) := by decide +kernel
theorem dX11_fails_5 : decode cX11_fails 5 = .ok (.if_icmp .ne 8, 3) := by decide +kernel
theorem dX11_fails_8 : decode cX11_fails 8 = .ok (.aload_n 0, 1) := by decide +kernel
theorem dX11_fails_9 : decode cX11_fails 9 = .ok (.iload_n 1, 1) := by decide +kernel
theorem dX11_fails_10 : decode cX11_fails 10 = .ok (.putfield 97, 3) := by decide +kernel
theorem flw_X11_97 : flw RX11 97 12 4 (.int) := ⟨RX11, TX11, 32, tyX11, rfl, inA_X11, by decide, w_1437, tyX11_ok, nmX11, by decide +kernel, Or.inl rfl⟩
theorem dX11_fails_13 : decode cX11_fails 13 = .ok (.return_, 1) := by decide +kernel
theorem dX11_readsStep_0 : decode cX11_readsStep 0 = .ok (.aload_n 0, 1) := by decide +kernel
theorem dX11_readsStep_1 : decode cX11_readsStep 1 = .ok (.invokevirtual 100, 3) := by decide +kernel
theorem dX11_readsStep_4 : decode cX11_readsStep 4 = .ok (.istore_n 1, 1) := by decide +kernel
theorem dX11_readsStep_5 : decode cX11_readsStep 5 = .ok (.aload_n 0, 1) := by decide +kernel
theorem dX11_readsStep_6 : decode cX11_readsStep 6 = .ok (.getfield 90, 3) := by decide +kernel
theorem dX11_readsStep_9 : decode cX11_readsStep 9 = .ok (.istore_n 2, 1) := by decide +kernel
theorem dX11_readsStep_10 : decode cX11_readsStep 10 = .ok (.aload_n 0, 1) := by decide +kernel
theorem dX11_readsStep_11 : decode cX11_readsStep 11 = .ok (.invokevirtual 134, 3) := by decide +kernel
theorem w_1569 : Cond.methodLink "QuarterWalksModel" 134 yX11_stepHere ∈ wAll := wIn 1569 (by decide +kernel) (by decide +kernel)
theorem w_42 : Cond.selects yX11_stepHere.cls yX11_stepHere yX11_stepHere ∈ wAll := wIn 42 (by decide +kernel) (by decide +kernel)
theorem mk_X11_stepHere : mk yX11_stepHere 0 := ⟨by decide +kernel, w_110⟩
theorem w_1571 : Cond.instanceMethod yX11_stepHere ∈ wAll := wIn 1571 (by decide +kernel) (by decide +kernel)
theorem w_1572 : Cond.code yX11_stepHere cX11_stepHere 1 (some .int) ∈ wAll := wIn 1572 (by decide +kernel) (by decide +kernel)
theorem dX11_readsStep_14 : decode cX11_readsStep 14 = .ok (.istore_n 3, 1) := by decide +kernel
theorem dX11_readsStep_15 : decode cX11_readsStep 15 = .ok (.iload_n 3, 1) := by decide +kernel
theorem dX11_readsStep_16 : decode cX11_readsStep 16 = .ok (.iconst (-1), 1) := by decide +kernel
theorem dX11_readsStep_17 : decode cX11_readsStep 17 = .ok (.if_icmp .eq 12, 3) := by decide +kernel
theorem dX11_readsStep_29 : decode cX11_readsStep 29 = .ok (.aload_n 0, 1) := by decide +kernel
theorem dX11_readsStep_30 : decode cX11_readsStep 30 = .ok (.iload_n 2, 1) := by decide +kernel
theorem dX11_readsStep_31 : decode cX11_readsStep 31 = .ok (.invokevirtual 111, 3) := by decide +kernel
theorem w_1587 : Cond.methodLink "QuarterWalksModel" 111 yX11_fails ∈ wAll := wIn 1587 (by decide +kernel) (by decide +kernel)
theorem w_44 : Cond.selects yX11_fails.cls yX11_fails yX11_fails ∈ wAll := wIn 44 (by decide +kernel) (by decide +kernel)
theorem mk_X11_fails : mk yX11_fails 1 := ⟨by decide +kernel, w_110⟩
theorem w_1589 : Cond.instanceMethod yX11_fails ∈ wAll := wIn 1589 (by decide +kernel) (by decide +kernel)
theorem w_1590 : Cond.code yX11_fails cX11_fails 2 none ∈ wAll := wIn 1590 (by decide +kernel) (by decide +kernel)
theorem dX11_readsStep_34 : decode cX11_readsStep 34 = .ok (.return_, 1) := by decide +kernel
theorem dX11_reads_0 : decode cX11_reads 0 = .ok (.aload_n 0, 1) := by decide +kernel
theorem dX11_reads_1 : decode cX11_reads 1 = .ok (.iconst 0, 1) := by decide +kernel
theorem dX11_reads_2 : decode cX11_reads 2 = .ok (.putfield 90, 3) := by decide +kernel
theorem flw_X11_90 : flw RX11 90 12 3 (.int) := ⟨RX11, TX11, 32, tyX11, rfl, inA_X11, by decide, w_1436, tyX11_ok, nmX11, by decide +kernel, Or.inl rfl⟩
theorem dX11_reads_5 : decode cX11_reads 5 = .ok (.aload_n 0, 1) := by decide +kernel
theorem dX11_reads_6 : decode cX11_reads 6 = .ok (.iconst (-1), 1) := by decide +kernel
theorem dX11_reads_7 : decode cX11_reads 7 = .ok (.putfield 97, 3) := by decide +kernel
theorem dX11_reads_10 : decode cX11_reads 10 = .ok (.iconst 0, 1) := by decide +kernel
theorem dX11_reads_11 : decode cX11_reads 11 = .ok (.istore_n 1, 1) := by decide +kernel
theorem dX11_reads_12 : decode cX11_reads 12 = .ok (.iload_n 1, 1) := by decide +kernel
theorem dX11_reads_13 : decode cX11_reads 13 = .ok (.bipush 10, 2) := by decide +kernel
theorem dX11_reads_15 : decode cX11_reads 15 = .ok (.if_icmp .ge 16, 3) := by decide +kernel
theorem dX11_reads_18 : decode cX11_reads 18 = .ok (.aload_n 0, 1) := by decide +kernel
theorem dX11_reads_19 : decode cX11_reads 19 = .ok (.getfield 13, 3) := by decide +kernel
theorem w_1438 : Cond.fieldLink "QuarterWalksModel" 13 "QuarterWalksModel" "read" "[I" ∈ wAll := wIn 1438 (by decide +kernel) (by decide +kernel)
theorem fl_X11_13 : fl RX11 13 12 5 := ⟨RX11, TX11, 32, rfl, inA_X11, by decide, w_1438⟩
theorem dX11_reads_22 : decode cX11_reads 22 = .ok (.iload_n 1, 1) := by decide +kernel
theorem dX11_reads_23 : decode cX11_reads 23 = .ok (.iconst 0, 1) := by decide +kernel
theorem dX11_reads_24 : decode cX11_reads 24 = .ok (.iastore, 1) := by decide +kernel
theorem dX11_reads_25 : decode cX11_reads 25 = .ok (.iinc 1 1, 3) := by decide +kernel
theorem dX11_reads_28 : decode cX11_reads 28 = .ok (.goto (-16), 3) := by decide +kernel
theorem dX11_reads_31 : decode cX11_reads 31 = .ok (.aload_n 0, 1) := by decide +kernel
theorem dX11_reads_32 : decode cX11_reads 32 = .ok (.invokevirtual 146, 3) := by decide +kernel
theorem w_1557 : Cond.methodLink "QuarterWalksModel" 146 yX11_readsStep ∈ wAll := wIn 1557 (by decide +kernel) (by decide +kernel)
theorem w_39 : Cond.selects yX11_readsStep.cls yX11_readsStep yX11_readsStep ∈ wAll := wIn 39 (by decide +kernel) (by decide +kernel)
theorem mk_X11_readsStep : mk yX11_readsStep 0 := ⟨by decide +kernel, w_110⟩
theorem w_1559 : Cond.instanceMethod yX11_readsStep ∈ wAll := wIn 1559 (by decide +kernel) (by decide +kernel)
theorem w_1560 : Cond.code yX11_readsStep cX11_readsStep 4 none ∈ wAll := wIn 1560 (by decide +kernel) (by decide +kernel)
theorem dX11_reads_35 : decode cX11_reads 35 = .ok (.aload_n 0, 1) := by decide +kernel
theorem dX11_reads_36 : decode cX11_reads 36 = .ok (.getfield 97, 3) := by decide +kernel
theorem dX11_reads_39 : decode cX11_reads 39 = .ok (.iconst (-1), 1) := by decide +kernel
theorem dX11_reads_40 : decode cX11_reads 40 = .ok (.if_icmp .ne 20, 3) := by decide +kernel
theorem dX11_reads_60 : decode cX11_reads 60 = .ok (.aload_n 0, 1) := by decide +kernel
theorem dX11_reads_61 : decode cX11_reads 61 = .ok (.getfield 97, 3) := by decide +kernel
theorem dX11_reads_64 : decode cX11_reads 64 = .ok (.iconst (-1), 1) := by decide +kernel
theorem dX11_reads_65 : decode cX11_reads 65 = .ok (.if_icmp .ne 16, 3) := by decide +kernel
theorem dX11_reads_81 : decode cX11_reads 81 = .ok (.aload_n 0, 1) := by decide +kernel
theorem dX11_reads_82 : decode cX11_reads 82 = .ok (.getfield 97, 3) := by decide +kernel
theorem dX11_reads_85 : decode cX11_reads 85 = .ok (.iconst (-1), 1) := by decide +kernel
theorem dX11_reads_86 : decode cX11_reads 86 = .ok (.if_icmp .ne 19, 3) := by decide +kernel
theorem dX11_reads_105 : decode cX11_reads 105 = .ok (.aload_n 0, 1) := by decide +kernel
theorem dX11_reads_106 : decode cX11_reads 106 = .ok (.getfield 97, 3) := by decide +kernel
theorem dX11_reads_109 : decode cX11_reads 109 = .ok (.ireturn, 1) := by decide +kernel
theorem dX11_fault_0 : decode cX11_fault 0 = .ok (.aload_n 0, 1) := by decide +kernel
theorem dX11_fault_1 : decode cX11_fault 1 = .ok (.iconst 0, 1) := by decide +kernel
theorem dX11_fault_2 : decode cX11_fault 2 = .ok (.putfield 75, 3) := by decide +kernel
theorem dX11_fault_5 : decode cX11_fault 5 = .ok (.aload_n 0, 1) := by decide +kernel
theorem dX11_fault_6 : decode cX11_fault 6 = .ok (.invokevirtual 152, 3) := by decide +kernel
theorem w_1553 : Cond.methodLink "QuarterWalksModel" 152 yX11_reads ∈ wAll := wIn 1553 (by decide +kernel) (by decide +kernel)
theorem w_38 : Cond.selects yX11_reads.cls yX11_reads yX11_reads ∈ wAll := wIn 38 (by decide +kernel) (by decide +kernel)
theorem mk_X11_reads : mk yX11_reads 0 := ⟨by decide +kernel, w_110⟩
theorem w_1555 : Cond.instanceMethod yX11_reads ∈ wAll := wIn 1555 (by decide +kernel) (by decide +kernel)
theorem w_1556 : Cond.code yX11_reads cX11_reads 2 (some .int) ∈ wAll := wIn 1556 (by decide +kernel) (by decide +kernel)
theorem dX11_fault_9 : decode cX11_fault 9 = .ok (.ireturn, 1) := by decide +kernel
theorem dX11_tell_0 : decode cX11_tell 0 = .ok (.aload_n 0, 1) := by decide +kernel
theorem dX11_tell_1 : decode cX11_tell 1 = .ok (.iconst 0, 1) := by decide +kernel
theorem dX11_tell_2 : decode cX11_tell 2 = .ok (.putfield 75, 3) := by decide +kernel
theorem dX11_tell_5 : decode cX11_tell 5 = .ok (.aload_n 0, 1) := by decide +kernel
theorem dX11_tell_6 : decode cX11_tell 6 = .ok (.invokevirtual 152, 3) := by decide +kernel
theorem dX11_tell_9 : decode cX11_tell 9 = .ok (.iconst (-1), 1) := by decide +kernel
theorem dX11_tell_10 : decode cX11_tell 10 = .ok (.if_icmp .eq 9, 3) := by decide +kernel
theorem dX11_tell_13 : decode cX11_tell 13 = .ok (.aload_n 0, 1) := by decide +kernel
theorem dX11_tell_14 : decode cX11_tell 14 = .ok (.iconst 0, 1) := by decide +kernel
theorem dX11_tell_15 : decode cX11_tell 15 = .ok (.invokevirtual 165, 3) := by decide +kernel
theorem dX11_tell_18 : decode cX11_tell 18 = .ok (.ireturn, 1) := by decide +kernel
theorem dX11_undo_0 : decode cX11_undo 0 = .ok (.aload_n 0, 1) := by decide +kernel
theorem dX11_undo_1 : decode cX11_undo 1 = .ok (.iconst 0, 1) := by decide +kernel
theorem dX11_undo_2 : decode cX11_undo 2 = .ok (.putfield 75, 3) := by decide +kernel
theorem dX11_undo_5 : decode cX11_undo 5 = .ok (.aload_n 0, 1) := by decide +kernel
theorem dX11_undo_6 : decode cX11_undo 6 = .ok (.getfield 155, 3) := by decide +kernel
theorem w_1443 : Cond.fieldLink "QuarterWalksModel" 155 "QuarterWalksModel" "acts" "I" ∈ wAll := wIn 1443 (by decide +kernel) (by decide +kernel)
theorem fl_X11_155 : fl RX11 155 12 10 := ⟨RX11, TX11, 32, rfl, inA_X11, by decide, w_1443⟩
theorem dX11_undo_9 : decode cX11_undo 9 = .ok (.ifCond .ne 5, 3) := by decide +kernel
theorem dX11_undo_12 : decode cX11_undo 12 = .ok (.iconst (-1), 1) := by decide +kernel
theorem dX11_undo_13 : decode cX11_undo 13 = .ok (.ireturn, 1) := by decide +kernel
theorem dX11_back_0 : decode cX11_back 0 = .ok (.aload_n 0, 1) := by decide +kernel
theorem dX11_back_1 : decode cX11_back 1 = .ok (.iconst 0, 1) := by decide +kernel
theorem dX11_back_2 : decode cX11_back 2 = .ok (.putfield 75, 3) := by decide +kernel
theorem dX11_back_5 : decode cX11_back 5 = .ok (.aload_n 0, 1) := by decide +kernel
theorem dX11_back_6 : decode cX11_back 6 = .ok (.getfield 437, 3) := by decide +kernel
theorem w_1444 : Cond.fieldLink "QuarterWalksModel" 437 "QuarterWalksModel" "hasImage" "Z" ∈ wAll := wIn 1444 (by decide +kernel) (by decide +kernel)
theorem fl_X11_437 : fl RX11 437 12 11 := ⟨RX11, TX11, 32, rfl, inA_X11, by decide, w_1444⟩
theorem dX11_back_9 : decode cX11_back 9 = .ok (.ifCond .ne 5, 3) := by decide +kernel
theorem dX11_back_12 : decode cX11_back 12 = .ok (.iconst (-1), 1) := by decide +kernel
theorem dX11_back_13 : decode cX11_back 13 = .ok (.ireturn, 1) := by decide +kernel
theorem dX11_unlike_0 : decode cX11_unlike 0 = .ok (.iconst 0, 1) := by decide +kernel
theorem dX11_unlike_1 : decode cX11_unlike 1 = .ok (.istore_n 1, 1) := by decide +kernel
theorem dX11_unlike_2 : decode cX11_unlike 2 = .ok (.iconst 0, 1) := by decide +kernel
theorem dX11_unlike_3 : decode cX11_unlike 3 = .ok (.istore_n 2, 1) := by decide +kernel
theorem dX11_unlike_4 : decode cX11_unlike 4 = .ok (.iload_n 2, 1) := by decide +kernel
theorem dX11_unlike_5 : decode cX11_unlike 5 = .ok (.aload_n 0, 1) := by decide +kernel
theorem dX11_unlike_6 : decode cX11_unlike 6 = .ok (.getfield 17, 3) := by decide +kernel
theorem dX11_unlike_9 : decode cX11_unlike 9 = .ok (.bipush 80, 2) := by decide +kernel
theorem dX11_unlike_11 : decode cX11_unlike 11 = .ok (.iaload, 1) := by decide +kernel
theorem dX11_unlike_12 : decode cX11_unlike 12 = .ok (.if_icmp .ge 56, 3) := by decide +kernel
theorem dX11_unlike_68 : decode cX11_unlike 68 = .ok (.iload_n 1, 1) := by decide +kernel
theorem dX11_unlike_69 : decode cX11_unlike 69 = .ok (.ireturn, 1) := by decide +kernel
theorem dX11_image_0 : decode cX11_image 0 = .ok (.aload_n 0, 1) := by decide +kernel
theorem dX11_image_1 : decode cX11_image 1 = .ok (.iconst 0, 1) := by decide +kernel
theorem dX11_image_2 : decode cX11_image 2 = .ok (.putfield 75, 3) := by decide +kernel
theorem dX11_image_5 : decode cX11_image 5 = .ok (.iconst 0, 1) := by decide +kernel
theorem dX11_image_6 : decode cX11_image 6 = .ok (.istore_n 1, 1) := by decide +kernel
theorem dX11_image_7 : decode cX11_image 7 = .ok (.iload_n 1, 1) := by decide +kernel
theorem dX11_image_8 : decode cX11_image 8 = .ok (.bipush 81, 2) := by decide +kernel
theorem dX11_image_10 : decode cX11_image 10 = .ok (.if_icmp .ge 21, 3) := by decide +kernel
theorem dX11_image_13 : decode cX11_image 13 = .ok (.aload_n 0, 1) := by decide +kernel
theorem dX11_image_14 : decode cX11_image 14 = .ok (.getfield 20, 3) := by decide +kernel
theorem w_1440 : Cond.fieldLink "QuarterWalksModel" 20 "QuarterWalksModel" "image" "[I" ∈ wAll := wIn 1440 (by decide +kernel) (by decide +kernel)
theorem fl_X11_20 : fl RX11 20 12 7 := ⟨RX11, TX11, 32, rfl, inA_X11, by decide, w_1440⟩
theorem dX11_image_17 : decode cX11_image 17 = .ok (.iload_n 1, 1) := by decide +kernel
theorem dX11_image_18 : decode cX11_image 18 = .ok (.aload_n 0, 1) := by decide +kernel
theorem dX11_image_19 : decode cX11_image 19 = .ok (.getfield 17, 3) := by decide +kernel
theorem dX11_image_22 : decode cX11_image 22 = .ok (.iload_n 1, 1) := by decide +kernel
theorem dX11_image_23 : decode cX11_image 23 = .ok (.iaload, 1) := by decide +kernel
theorem dX11_image_24 : decode cX11_image 24 = .ok (.iastore, 1) := by decide +kernel
theorem dX11_image_25 : decode cX11_image 25 = .ok (.iinc 1 1, 3) := by decide +kernel
theorem dX11_image_28 : decode cX11_image 28 = .ok (.goto (-21), 3) := by decide +kernel
theorem dX11_image_31 : decode cX11_image 31 = .ok (.aload_n 0, 1) := by decide +kernel
theorem dX11_image_32 : decode cX11_image 32 = .ok (.iconst 1, 1) := by decide +kernel
theorem dX11_image_33 : decode cX11_image 33 = .ok (.putfield 437, 3) := by decide +kernel
theorem flw_X11_437 : flw RX11 437 12 11 (.boolean) := ⟨RX11, TX11, 32, tyX11, rfl, inA_X11, by decide, w_1444, tyX11_ok, nmX11, by decide +kernel, Or.inl rfl⟩
theorem dX11_image_36 : decode cX11_image 36 = .ok (.aload_n 0, 1) := by decide +kernel
theorem dX11_image_37 : decode cX11_image 37 = .ok (.getfield 17, 3) := by decide +kernel
theorem dX11_image_40 : decode cX11_image 40 = .ok (.bipush 80, 2) := by decide +kernel
theorem dX11_image_42 : decode cX11_image 42 = .ok (.iaload, 1) := by decide +kernel
theorem dX11_image_43 : decode cX11_image 43 = .ok (.ireturn, 1) := by decide +kernel
theorem dX11_end_0 : decode cX11_end 0 = .ok (.aload_n 0, 1) := by decide +kernel
theorem dX11_end_1 : decode cX11_end 1 = .ok (.iconst 0, 1) := by decide +kernel
theorem dX11_end_2 : decode cX11_end 2 = .ok (.putfield 75, 3) := by decide +kernel
theorem dX11_end_5 : decode cX11_end 5 = .ok (.iload_n 1, 1) := by decide +kernel
theorem dX11_end_6 : decode cX11_end 6 = .ok (.ifCond .lt 11, 3) := by decide +kernel
theorem dX11_end_17 : decode cX11_end 17 = .ok (.iconst 0, 1) := by decide +kernel
theorem dX11_end_18 : decode cX11_end 18 = .ok (.ireturn, 1) := by decide +kernel
theorem dX11_end_9 : decode cX11_end 9 = .ok (.iload_n 1, 1) := by decide +kernel
theorem dX11_end_10 : decode cX11_end 10 = .ok (.aload_n 0, 1) := by decide +kernel
theorem dX11_end_11 : decode cX11_end 11 = .ok (.getfield 79, 3) := by decide +kernel
theorem dX11_end_14 : decode cX11_end 14 = .ok (.if_icmp .le 5, 3) := by decide +kernel
theorem dX11_end_19 : decode cX11_end 19 = .ok (.aload_n 0, 1) := by decide +kernel
theorem dX11_end_20 : decode cX11_end 20 = .ok (.iload_n 1, 1) := by decide +kernel
theorem dX11_end_21 : decode cX11_end 21 = .ok (.putfield 79, 3) := by decide +kernel
theorem flw_X11_79 : flw RX11 79 12 2 (.int) := ⟨RX11, TX11, 32, tyX11, rfl, inA_X11, by decide, w_1435, tyX11_ok, nmX11, by decide +kernel, Or.inl rfl⟩
theorem dX11_end_24 : decode cX11_end 24 = .ok (.iconst 1, 1) := by decide +kernel
theorem dX11_end_25 : decode cX11_end 25 = .ok (.ireturn, 1) := by decide +kernel
theorem dX11_count_0 : decode cX11_count 0 = .ok (.aload_n 0, 1) := by decide +kernel
theorem dX11_count_1 : decode cX11_count 1 = .ok (.iconst 0, 1) := by decide +kernel
theorem dX11_count_2 : decode cX11_count 2 = .ok (.putfield 75, 3) := by decide +kernel
theorem dX11_count_5 : decode cX11_count 5 = .ok (.iload_n 1, 1) := by decide +kernel
theorem dX11_count_6 : decode cX11_count 6 = .ok (.ifCond .ne 10, 3) := by decide +kernel
theorem dX11_count_16 : decode cX11_count 16 = .ok (.iload_n 1, 1) := by decide +kernel
theorem dX11_count_17 : decode cX11_count 17 = .ok (.iconst 1, 1) := by decide +kernel
theorem dX11_count_18 : decode cX11_count 18 = .ok (.if_icmp .ne 10, 3) := by decide +kernel
theorem dX11_count_28 : decode cX11_count 28 = .ok (.iload_n 1, 1) := by decide +kernel
theorem dX11_count_29 : decode cX11_count 29 = .ok (.iconst 2, 1) := by decide +kernel
theorem dX11_count_30 : decode cX11_count 30 = .ok (.if_icmp .ne 13, 3) := by decide +kernel
theorem dX11_count_43 : decode cX11_count 43 = .ok (.iconst (-1), 1) := by decide +kernel
theorem dX11_count_44 : decode cX11_count 44 = .ok (.ireturn, 1) := by decide +kernel
theorem dX11_count_33 : decode cX11_count 33 = .ok (.aload_n 0, 1) := by decide +kernel
theorem dX11_count_34 : decode cX11_count 34 = .ok (.getfield 17, 3) := by decide +kernel
theorem dX11_count_37 : decode cX11_count 37 = .ok (.bipush 80, 2) := by decide +kernel
theorem dX11_count_39 : decode cX11_count 39 = .ok (.iaload, 1) := by decide +kernel
theorem dX11_count_40 : decode cX11_count 40 = .ok (.goto 4, 3) := by decide +kernel
theorem dX11_count_21 : decode cX11_count 21 = .ok (.aload_n 0, 1) := by decide +kernel
theorem dX11_count_22 : decode cX11_count 22 = .ok (.getfield 155, 3) := by decide +kernel
theorem dX11_count_25 : decode cX11_count 25 = .ok (.goto 19, 3) := by decide +kernel
theorem dX11_count_9 : decode cX11_count 9 = .ok (.aload_n 0, 1) := by decide +kernel
theorem dX11_count_10 : decode cX11_count 10 = .ok (.getfield 79, 3) := by decide +kernel
theorem dX11_count_13 : decode cX11_count 13 = .ok (.goto 31, 3) := by decide +kernel
theorem dX11_most_0 : decode cX11_most 0 = .ok (.aload_n 0, 1) := by decide +kernel
theorem dX11_most_1 : decode cX11_most 1 = .ok (.iconst 0, 1) := by decide +kernel
theorem dX11_most_2 : decode cX11_most 2 = .ok (.putfield 75, 3) := by decide +kernel
theorem dX11_most_5 : decode cX11_most 5 = .ok (.iload_n 1, 1) := by decide +kernel
theorem dX11_most_6 : decode cX11_most 6 = .ok (.iconst 3, 1) := by decide +kernel
theorem dX11_most_7 : decode cX11_most 7 = .ok (.if_icmp .ne 8, 3) := by decide +kernel
theorem dX11_most_15 : decode cX11_most 15 = .ok (.aload_n 0, 1) := by decide +kernel
theorem dX11_most_16 : decode cX11_most 16 = .ok (.getfield 17, 3) := by decide +kernel
theorem dX11_most_19 : decode cX11_most 19 = .ok (.bipush 80, 2) := by decide +kernel
theorem dX11_most_21 : decode cX11_most 21 = .ok (.iaload, 1) := by decide +kernel
theorem dX11_most_22 : decode cX11_most 22 = .ok (.ifCond .eq 15, 3) := by decide +kernel
theorem dX11_most_37 : decode cX11_most 37 = .ok (.iconst (-1), 1) := by decide +kernel
theorem dX11_most_38 : decode cX11_most 38 = .ok (.ireturn, 1) := by decide +kernel
theorem dX11_most_10 : decode cX11_most 10 = .ok (.aload_n 0, 1) := by decide +kernel
theorem dX11_most_11 : decode cX11_most 11 = .ok (.invokevirtual 447, 3) := by decide +kernel
theorem w_2042 : Cond.methodLink "QuarterWalksModel" 447 yX11_unlike ∈ wAll := wIn 2042 (by decide +kernel) (by decide +kernel)
theorem w_91 : Cond.selects yX11_unlike.cls yX11_unlike yX11_unlike ∈ wAll := wIn 91 (by decide +kernel) (by decide +kernel)
theorem mk_X11_unlike : mk yX11_unlike 0 := ⟨by decide +kernel, w_110⟩
theorem w_2044 : Cond.instanceMethod yX11_unlike ∈ wAll := wIn 2044 (by decide +kernel) (by decide +kernel)
theorem w_2045 : Cond.code yX11_unlike cX11_unlike 5 (some .int) ∈ wAll := wIn 2045 (by decide +kernel) (by decide +kernel)
theorem dX11_most_14 : decode cX11_most 14 = .ok (.ireturn, 1) := by decide +kernel
theorem dX11_status_0 : decode cX11_status 0 = .ok (.aload_n 0, 1) := by decide +kernel
theorem dX11_status_1 : decode cX11_status 1 = .ok (.iconst 0, 1) := by decide +kernel
theorem dX11_status_2 : decode cX11_status 2 = .ok (.putfield 75, 3) := by decide +kernel
theorem dX11_status_5 : decode cX11_status 5 = .ok (.iload_n 1, 1) := by decide +kernel
theorem dX11_status_6 : decode cX11_status 6 = .ok (.i2l, 1) := by decide +kernel
theorem dX11_status_7 : decode cX11_status 7 = .ok (.lconst 0, 1) := by decide +kernel
theorem dX11_status_8 : decode cX11_status 8 = .ok (.ldc2_w 389, 3) := by decide +kernel
theorem w_1944 : Cond.constantLong "QuarterWalksModel" 389 3 ∈ wAll := wIn 1944 (by decide +kernel) (by decide +kernel)
theorem dX11_status_11 : decode cX11_status 11 = .ok (.invokestatic 158, 3) := by decide +kernel
theorem dX11_status_14 : decode cX11_status 14 = .ok (.ifCond .eq 12, 3) := by decide +kernel
theorem dX11_status_26 : decode cX11_status 26 = .ok (.iconst (-1), 1) := by decide +kernel
theorem dX11_status_27 : decode cX11_status 27 = .ok (.ireturn, 1) := by decide +kernel
theorem dX11_status_17 : decode cX11_status 17 = .ok (.aload_n 0, 1) := by decide +kernel
theorem dX11_status_18 : decode cX11_status 18 = .ok (.getfield 26, 3) := by decide +kernel
theorem dX11_status_21 : decode cX11_status 21 = .ok (.iload_n 1, 1) := by decide +kernel
theorem dX11_status_22 : decode cX11_status 22 = .ok (.iaload, 1) := by decide +kernel
theorem dX11_status_23 : decode cX11_status 23 = .ok (.goto 4, 3) := by decide +kernel

def Vcount (p : Int32) : Int32 := if p = 0 then 0 else if p = 1 then 0 else if p = 2 then 0 else -1
def Vmost (p : Int32) : Int32 := if p = 3 then 0 else -1
def Vstatus (p : Int32) : Int32 := if wi p 0 3 = 0 then -1 else 0
theorem wl_wi3 (p : Int32) : wl (Int32.toInt64 p) 0 3 = wi p 0 3 := by
  unfold wl wi
  have e0 : (0 : Int64) = Int32.toInt64 0 := by decide
  have e3 : (3 : Int64) = Int32.toInt64 3 := by decide
  have h1 : (lg_cmp (Int32.toInt64 p) 0 < 0) ↔ p < 0 := by rw [lg_cmp_lt, e0, Int64.lt_iff_toInt_lt, Int32.toInt_toInt64, Int32.toInt_toInt64, ← Int32.lt_iff_toInt_lt]
  have h2 : (0 < lg_cmp (Int32.toInt64 p) 3) ↔ 3 < p := by rw [lg_cmp_gt, e3, Int64.lt_iff_toInt_lt, Int32.toInt_toInt64, Int32.toInt_toInt64, ← Int32.lt_iff_toInt_lt]
  simp only [h1, h2]
theorem Vstatus_no {p : Int32} (h : wl (Int32.toInt64 p) 0 3 = 0) : Vstatus p = -1 := by rw [wl_wi3] at h; unfold Vstatus; rw [if_pos h]
theorem Vstatus_yes {p : Int32} (h : ¬ wl (Int32.toInt64 p) 0 3 = 0) : Vstatus p = 0 := by rw [wl_wi3] at h; unfold Vstatus; rw [if_neg h]
theorem vp_wi {p : Int32} (h : ¬ wi p 0 3 = 0) : vp_in p 4 := by
  unfold wi at h
  by_cases h1 : p < 0
  · rw [if_pos h1] at h; exact absurd rfl h
  · rw [if_neg h1] at h
    by_cases h2 : 3 < p
    · rw [if_pos h2] at h; exact absurd rfl h
    · rw [vp_in_iff]
      rw [Int32.lt_iff_toInt_lt] at h1 h2
      have e1 : (0 : Int32).toInt = 0 := rfl
      have e2 : (3 : Int32).toInt = 3 := rfl
      omega
theorem vp_wl {p : Int32} (h : ¬ wl (Int32.toInt64 p) 0 3 = 0) : vp_in p 4 := by rw [wl_wi3] at h; exact vp_wi h
set_option maxRecDepth 100000 in
set_option maxHeartbeats 4000000 in
theorem c_J0_coder_7d493 (l : Launch) (D : va_G) (G : Nat → Nat) (b0 : Nat) (f : hM) (i : Nat) (hi : i < 12) : mI l yJ0_coder_7d493 cJ0_coder_7d493 1 (.byte) { frames := 0, cells := 0, slots := 0, locals := 0 } D G b0 f [.ref (G (20 + i))] (fun r f1 => (0 : Int32) = r ∧ f = f1) := by
  refine met_of (own := RJ0) (by decide) rfl (Nat.le_of_ble_eq_true rfl) ?_
  intro p e s m below meth c ls C hr hini hl h
  have hl : lv_has ls 1 [(0, .ref (G (20 + i)))] := hl
  obtain ⟨hx, hb, hml, hown, hts, hE0, hlk⟩ := id C
  have hvk := hE0.2.2.2.2.2.2.2.2.2.1
  refine va_gets hx hb hE0.2.1 h.2.2.1 hown (hts _ w_480) (fun _ h9 => h9) dJ0_coder_7d493_0 ?_
  refine lv_if_eq (tgt := 13) hx hb dJ0_coder_7d493_3 (by decide) (fun c_387 => ?_) (fun c_387 => ?_)
  · exact absurd c_387 (by decide)
  · refine lv_aload_n hx hb dJ0_coder_7d493_6 rfl (lv_at hl 0 rfl) ?_
    refine vk_getf hx hb (hvk.1 i hi).2.1 h.2.2.1 hown (hts _ w_2092) (fun _ h9 => h9) dJ0_coder_7d493_7 ?_
    refine lv_goto (tgt := 14) hx hb dJ0_coder_7d493_10 (by decide) ?_
    exact q_bret C h hr rfl (⟨rfl, rfl⟩) (Nat.le_of_ble_eq_true rfl) (Nat.le_of_ble_eq_true rfl) dJ0_coder_7d493_14
set_option maxRecDepth 100000 in
set_option maxHeartbeats 4000000 in
theorem c_J0_length_8abf5 (l : Launch) (D : va_G) (G : Nat → Nat) (b0 : Nat) (f : hM) (i : Nat) (hi : i < 12) : mI l yJ0_length_8abf5 cJ0_length_8abf5 1 (.int) { frames := 1, cells := 0, slots := 0, locals := 20 } D G b0 f [.ref (G (20 + i))] (fun r f1 => nI (str_len.getD i 0) = r ∧ f = f1) := by
  refine met_of (own := RJ0) (by decide) rfl (Nat.le_of_ble_eq_true rfl) ?_
  intro p e s m below meth c ls C hr hini hl h
  have hl : lv_has ls 1 [(0, .ref (G (20 + i)))] := hl
  obtain ⟨hx, hb, hml, hown, hts, hE0, hlk⟩ := id C
  have hvk := hE0.2.2.2.2.2.2.2.2.2.1
  refine lv_aload_n hx hb dJ0_length_8abf5_0 rfl (lv_at hl 0 rfl) ?_
  refine vk_getf hx hb (hvk.1 i hi).2.2.1 h.2.2.1 hown (hts _ w_2093) (fun _ h9 => h9) dJ0_length_8abf5_1 ?_
  refine va_tlen hx hb (hvk.1 i hi).2.2.2 h.2.2.1 (v := nI (str_len.getD i 0)) rfl dJ0_length_8abf5_4 ?_
  refine lv_aload_n hx hb dJ0_length_8abf5_5 rfl (lv_at hl 0 rfl) ?_
  have hrv := vk_recv hvk hi h.2.2.1
  refine k_i (r_VK C h hl (As := []) (rest := [.int (nI (str_len.getD i 0))]) (c_J0_coder_7d493 l D G b0 f i hi) hrv mk_J0_coder_7d493 w_1255 w_1256 w_1257 w_1258 ⟨Nat.le_of_ble_eq_true rfl, Nat.le_of_ble_eq_true rfl⟩ rfl (Nat.le_of_ble_eq_true rfl) ⟨Nat.le_of_ble_eq_true rfl, Nat.le_of_ble_eq_true rfl⟩ rfl dJ0_length_8abf5_6) h (fun r_388 f_389 H locs p_390 h => ?_)
  obtain ⟨rfl, rfl⟩ := p_390
  refine lv_ishr hx hb dJ0_length_8abf5_9 ?_
  exact q_iret C h hr (⟨(sb_shr0 _).symm, rfl⟩) (Nat.le_of_ble_eq_true rfl) (Nat.le_of_ble_eq_true rfl) dJ0_length_8abf5_10
set_option maxRecDepth 100000 in
set_option maxHeartbeats 4000000 in
theorem c_X11_here (l : Launch) (D : va_G) (G : Nat → Nat) (b0 : Nat) (f : hM) (M : Nat → Nat) (k1 : f (M 0) = some (.inr (12, [.int 0, .ref (M 1), .int 0, .int 0, .int (-1), .ref (M 2), .ref (M 3), .ref (M 4), .ref (M 5), .ref (M 6), .int 0, .int 0, .ref (M 7), .ref (M 8), .int 0, .ref (M 9), .ref (M 10), .ref (M 11), .long 0, .ref (M 12), .ref (M 13), .ref (M 14), .ref (M 15), .ref (M 16), .ref (M 17), .ref (M 18), .ref (M 19), .int 0, .int 0, .ref (M 20), .ref (M 21), .int 0]))) : mI l yX11_here cX11_here 1 (.int) { frames := 0, cells := 0, slots := 0, locals := 0 } D G b0 f [.ref (M 0)] (fun r f1 => (-1 : Int32) = r ∧ f = f1) := by
  refine met_of (own := RX11) (by decide) rfl (Nat.le_of_ble_eq_true rfl) ?_
  intro p e s m below meth c ls C hr hini hl h
  have hl : lv_has ls 1 [(0, .ref (M 0))] := hl
  obtain ⟨hx, hb, hml, hown, hts, hE0, hlk⟩ := id C
  refine lv_aload_n hx hb dX11_here_0 rfl (lv_at hl 0 rfl) ?_
  refine q_get C h k1 fl_X11_90 (v := .int 0) rfl dX11_here_1 ?_
  refine lv_aload_n hx hb dX11_here_4 rfl (lv_at hl 0 rfl) ?_
  refine q_get C h k1 fl_X11_79 (v := .int 0) rfl dX11_here_5 ?_
  refine lv_icmp_ge (tgt := 27) hx hb dX11_here_8 (by decide) (fun c_391 => ?_) (fun c_391 => ?_)
  · refine lv_iconst (v := -1) hx hb dX11_here_27 (by decide) ?_
    exact q_iret C h hr (⟨rfl, rfl⟩) (Nat.le_of_ble_eq_true rfl) (Nat.le_of_ble_eq_true rfl) dX11_here_28
  · exact absurd c_391 (by decide)
set_option maxRecDepth 100000 in
set_option maxHeartbeats 4000000 in
theorem c_X11_look (l : Launch) (D : va_G) (G : Nat → Nat) (b0 : Nat) (f : hM) (M : Nat → Nat) (k1 : f (M 0) = some (.inr (12, [.int 0, .ref (M 1), .int 0, .int 0, .int (-1), .ref (M 2), .ref (M 3), .ref (M 4), .ref (M 5), .ref (M 6), .int 0, .int 0, .ref (M 7), .ref (M 8), .int 0, .ref (M 9), .ref (M 10), .ref (M 11), .long 0, .ref (M 12), .ref (M 13), .ref (M 14), .ref (M 15), .ref (M 16), .ref (M 17), .ref (M 18), .ref (M 19), .int 0, .int 0, .ref (M 20), .ref (M 21), .int 0]))) : mI l yX11_look cX11_look 1 (.int) { frames := 1, cells := 0, slots := 0, locals := 20 } D G b0 f [.ref (M 0)] (fun r f1 => (-1 : Int32) = r ∧ f = f1) := by
  refine met_of (own := RX11) (by decide) rfl (Nat.le_of_ble_eq_true rfl) ?_
  intro p e s m below meth c ls C hr hini hl h
  have hl : lv_has ls 1 [(0, .ref (M 0))] := hl
  obtain ⟨hx, hb, hml, hown, hts, hE0, hlk⟩ := id C
  refine lv_aload_n hx hb dX11_look_0 rfl (lv_at hl 0 rfl) ?_
  refine k_i (r_V C h hl (As := []) (rest := []) (c_X11_here l D G b0 f M k1) k1 (Cn := RX11) (T := TX11) (N := 32) rfl rfl mk_X11_here w_1565 w_1567 w_41 w_1568 ⟨Nat.le_of_ble_eq_true rfl, Nat.le_of_ble_eq_true rfl⟩ rfl (Nat.le_of_ble_eq_true rfl) ⟨Nat.le_of_ble_eq_true rfl, Nat.le_of_ble_eq_true rfl⟩ rfl dX11_look_1) h (fun r_392 f_393 H locs p_394 h => ?_)
  obtain ⟨rfl, rfl⟩ := p_394
  refine lv_bipush (v := 32) hx hb dX11_look_4 (by decide) ?_
  refine lv_icmp_ne (tgt := 22) hx hb dX11_look_6 (by decide) (fun c_395 => ?_) (fun c_395 => ?_)
  · refine lv_aload_n hx hb dX11_look_22 rfl (lv_at hl 0 rfl) ?_
    refine k_i (r_V C h hl (As := []) (rest := []) (c_X11_here l D G b0 f M k1) k1 (Cn := RX11) (T := TX11) (N := 32) rfl rfl mk_X11_here w_1565 w_1567 w_41 w_1568 ⟨Nat.le_of_ble_eq_true rfl, Nat.le_of_ble_eq_true rfl⟩ rfl (Nat.le_of_ble_eq_true rfl) ⟨Nat.le_of_ble_eq_true rfl, Nat.le_of_ble_eq_true rfl⟩ rfl dX11_look_23) h (fun r_396 f_397 H locs p_398 h => ?_)
    obtain ⟨rfl, rfl⟩ := p_398
    exact q_iret C h hr (⟨rfl, rfl⟩) (Nat.le_of_ble_eq_true rfl) (Nat.le_of_ble_eq_true rfl) dX11_look_26
  · exact absurd c_395 (by decide)
set_option maxRecDepth 100000 in
set_option maxHeartbeats 4000000 in
theorem c_X11_word (l : Launch) (D : va_G) (G : Nat → Nat) (b0 : Nat) (f : hM) (M : Nat → Nat) (k1 : f (M 0) = some (.inr (12, [.int 0, .ref (M 1), .int 0, .int 0, .int (-1), .ref (M 2), .ref (M 3), .ref (M 4), .ref (M 5), .ref (M 6), .int 0, .int 0, .ref (M 7), .ref (M 8), .int 0, .ref (M 9), .ref (M 10), .ref (M 11), .long 0, .ref (M 12), .ref (M 13), .ref (M 14), .ref (M 15), .ref (M 16), .ref (M 17), .ref (M 18), .ref (M 19), .int 0, .int 0, .ref (M 20), .ref (M 21), .int 0]))) (i : Nat) (hi : i < 12) (hn : 0 < str_len.getD i 0 ∧ str_len.getD i 0 < 2 ^ 31) : mI l yX11_word cX11_word 4 (.boolean) { frames := 2, cells := 0, slots := 0, locals := 40 } D G b0 f [.ref (M 0), .ref (G (20 + i))] (fun r f1 => (0 : Int32) = r ∧ f = f1) := by
  refine met_of (own := RX11) (by decide) rfl (Nat.le_of_ble_eq_true rfl) ?_
  intro p e s m below meth c ls C hr hini hl h
  have hl : lv_has ls 4 [(0, .ref (M 0)), (1, .ref (G (20 + i)))] := hl
  obtain ⟨hx, hb, hml, hown, hts, hE0, hlk⟩ := id C
  have hvk := hE0.2.2.2.2.2.2.2.2.2.1
  refine lv_aload_n hx hb dX11_word_0 rfl (lv_at hl 0 rfl) ?_
  refine k_i (r_V C h hl (As := []) (rest := []) (c_X11_look l D G b0 f M k1) k1 (Cn := RX11) (T := TX11) (N := 32) rfl rfl mk_X11_look w_1561 w_1563 w_40 w_1564 ⟨Nat.le_of_ble_eq_true rfl, Nat.le_of_ble_eq_true rfl⟩ rfl (Nat.le_of_ble_eq_true rfl) ⟨Nat.le_of_ble_eq_true rfl, Nat.le_of_ble_eq_true rfl⟩ rfl dX11_word_1) h (fun r_399 f_400 H locs p_401 h => ?_)
  obtain ⟨rfl, rfl⟩ := p_401
  refine lv_istore_n (lv' := [(2, .int (-1)), (0, .ref (M 0)), (1, .ref (G (20 + i)))]) hx hb dX11_word_4 rfl hl (by decide) rfl (fun ls hl => ?_)
  refine lv_iconst (v := 0) hx hb dX11_word_5 (by decide) ?_
  refine lv_istore_n (lv' := [(3, .int 0), (2, .int (-1)), (0, .ref (M 0)), (1, .ref (G (20 + i)))]) hx hb dX11_word_6 rfl hl (by decide) rfl (fun ls hl => ?_)
  refine lv_iload_n hx hb dX11_word_7 rfl (lv_at hl 0 rfl) ?_
  refine lv_aload_n hx hb dX11_word_8 rfl (lv_at hl 3 rfl) ?_
  have hrv := vk_recv hvk hi h.2.2.1
  refine k_i (r_VK C h hl (As := []) (rest := [.int 0]) (c_J0_length_8abf5 l D G b0 f i hi) hrv mk_J0_length_8abf5 w_1578 w_1252 w_1253 w_1254 ⟨Nat.le_of_ble_eq_true rfl, Nat.le_of_ble_eq_true rfl⟩ rfl (Nat.le_of_ble_eq_true rfl) ⟨Nat.le_of_ble_eq_true rfl, Nat.le_of_ble_eq_true rfl⟩ rfl dX11_word_9) h (fun r_402 f_403 H locs p_404 h => ?_)
  obtain ⟨rfl, rfl⟩ := p_404
  refine lv_icmp_ge (tgt := 55) hx hb dX11_word_12 (by decide) (fun c_405 => ?_) (fun c_405 => ?_)
  · exact absurd c_405 (nI_nle hn.1 hn.2)
  · refine lv_aload_n hx hb dX11_word_15 rfl (lv_at hl 2 rfl) ?_
    refine q_get C h k1 fl_X11_90 (v := .int 0) rfl dX11_word_16 ?_
    refine lv_iload_n hx hb dX11_word_19 rfl (lv_at hl 0 rfl) ?_
    refine lv_iadd hx hb dX11_word_20 ?_
    refine lv_topi (fun x_ e_ => ?_)
    obtain rfl : 0 = x_ := by rw [e_]; decide
    refine lv_aload_n hx hb dX11_word_21 rfl (lv_at hl 2 rfl) ?_
    refine q_get C h k1 fl_X11_79 (v := .int 0) rfl dX11_word_22 ?_
    refine lv_icmp_ge (tgt := 47) hx hb dX11_word_25 (by decide) (fun c_406 => ?_) (fun c_406 => ?_)
    · refine lv_iconst (v := 0) hx hb dX11_word_47 (by decide) ?_
      exact q_zret C h hr (Or.inl rfl) (⟨rfl, rfl⟩) (Nat.le_of_ble_eq_true rfl) (Nat.le_of_ble_eq_true rfl) dX11_word_48
    · exact absurd c_406 (by decide)
set_option maxRecDepth 100000 in
set_option maxHeartbeats 4000000 in
theorem c_X11_stepHere (l : Launch) (D : va_G) (G : Nat → Nat) (b0 : Nat) (f : hM) (M : Nat → Nat) (k1 : f (M 0) = some (.inr (12, [.int 0, .ref (M 1), .int 0, .int 0, .int (-1), .ref (M 2), .ref (M 3), .ref (M 4), .ref (M 5), .ref (M 6), .int 0, .int 0, .ref (M 7), .ref (M 8), .int 0, .ref (M 9), .ref (M 10), .ref (M 11), .long 0, .ref (M 12), .ref (M 13), .ref (M 14), .ref (M 15), .ref (M 16), .ref (M 17), .ref (M 18), .ref (M 19), .int 0, .int 0, .ref (M 20), .ref (M 21), .int 0]))) : mI l yX11_stepHere cX11_stepHere 1 (.int) { frames := 3, cells := 0, slots := 0, locals := 63 } D G b0 f [.ref (M 0)] (fun r f1 => (-1 : Int32) = r ∧ f = f1) := by
  refine met_of (own := RX11) (by decide) rfl (Nat.le_of_ble_eq_true rfl) ?_
  intro p e s m below meth c ls C hr hini hl h
  have hl : lv_has ls 1 [(0, .ref (M 0))] := hl
  obtain ⟨hx, hb, hml, hown, hts, hE0, hlk⟩ := id C
  have hstr := hE0.2.2.2.2.2.2.2.2.1
  refine lv_aload_n hx hb dX11_stepHere_0 rfl (lv_at hl 0 rfl) ?_
  refine va_ldcS hx hb hown (hstr ("QuarterWalksModel", 114, "n", 0) (by decide)) dX11_stepHere_1 ?_
  refine k_i (r_V C h hl (As := [.ref (G (20 + 0))]) (rest := []) (c_X11_word l D G b0 f M k1 0 (by decide) (by decide)) k1 (Cn := RX11) (T := TX11) (N := 32) rfl rfl mk_X11_word w_1574 w_1576 w_43 w_1577 ⟨Nat.le_of_ble_eq_true rfl, Nat.le_of_ble_eq_true rfl⟩ rfl (Nat.le_of_ble_eq_true rfl) ⟨Nat.le_of_ble_eq_true rfl, Nat.le_of_ble_eq_true rfl⟩ rfl dX11_stepHere_3) h (fun r_407 f_408 H locs p_409 h => ?_)
  obtain ⟨rfl, rfl⟩ := p_409
  refine lv_if_eq (tgt := 11) hx hb dX11_stepHere_6 (by decide) (fun c_410 => ?_) (fun c_410 => ?_)
  · refine lv_aload_n hx hb dX11_stepHere_11 rfl (lv_at hl 0 rfl) ?_
    refine va_ldcS hx hb hown (hstr ("QuarterWalksModel", 120, "ne", 1) (by decide)) dX11_stepHere_12 ?_
    refine k_i (r_V C h hl (As := [.ref (G (20 + 1))]) (rest := []) (c_X11_word l D G b0 f M k1 1 (by decide) (by decide)) k1 (Cn := RX11) (T := TX11) (N := 32) rfl rfl mk_X11_word w_1574 w_1576 w_43 w_1577 ⟨Nat.le_of_ble_eq_true rfl, Nat.le_of_ble_eq_true rfl⟩ rfl (Nat.le_of_ble_eq_true rfl) ⟨Nat.le_of_ble_eq_true rfl, Nat.le_of_ble_eq_true rfl⟩ rfl dX11_stepHere_14) h (fun r_411 f_412 H locs p_413 h => ?_)
    obtain ⟨rfl, rfl⟩ := p_413
    refine lv_if_eq (tgt := 22) hx hb dX11_stepHere_17 (by decide) (fun c_414 => ?_) (fun c_414 => ?_)
    · refine lv_aload_n hx hb dX11_stepHere_22 rfl (lv_at hl 0 rfl) ?_
      refine va_ldcS hx hb hown (hstr ("QuarterWalksModel", 122, "e", 2) (by decide)) dX11_stepHere_23 ?_
      refine k_i (r_V C h hl (As := [.ref (G (20 + 2))]) (rest := []) (c_X11_word l D G b0 f M k1 2 (by decide) (by decide)) k1 (Cn := RX11) (T := TX11) (N := 32) rfl rfl mk_X11_word w_1574 w_1576 w_43 w_1577 ⟨Nat.le_of_ble_eq_true rfl, Nat.le_of_ble_eq_true rfl⟩ rfl (Nat.le_of_ble_eq_true rfl) ⟨Nat.le_of_ble_eq_true rfl, Nat.le_of_ble_eq_true rfl⟩ rfl dX11_stepHere_25) h (fun r_415 f_416 H locs p_417 h => ?_)
      obtain ⟨rfl, rfl⟩ := p_417
      refine lv_if_eq (tgt := 33) hx hb dX11_stepHere_28 (by decide) (fun c_418 => ?_) (fun c_418 => ?_)
      · refine lv_aload_n hx hb dX11_stepHere_33 rfl (lv_at hl 0 rfl) ?_
        refine va_ldcS hx hb hown (hstr ("QuarterWalksModel", 124, "se", 3) (by decide)) dX11_stepHere_34 ?_
        refine k_i (r_V C h hl (As := [.ref (G (20 + 3))]) (rest := []) (c_X11_word l D G b0 f M k1 3 (by decide) (by decide)) k1 (Cn := RX11) (T := TX11) (N := 32) rfl rfl mk_X11_word w_1574 w_1576 w_43 w_1577 ⟨Nat.le_of_ble_eq_true rfl, Nat.le_of_ble_eq_true rfl⟩ rfl (Nat.le_of_ble_eq_true rfl) ⟨Nat.le_of_ble_eq_true rfl, Nat.le_of_ble_eq_true rfl⟩ rfl dX11_stepHere_36) h (fun r_419 f_420 H locs p_421 h => ?_)
        obtain ⟨rfl, rfl⟩ := p_421
        refine lv_if_eq (tgt := 44) hx hb dX11_stepHere_39 (by decide) (fun c_422 => ?_) (fun c_422 => ?_)
        · refine lv_aload_n hx hb dX11_stepHere_44 rfl (lv_at hl 0 rfl) ?_
          refine va_ldcS hx hb hown (hstr ("QuarterWalksModel", 126, "s", 4) (by decide)) dX11_stepHere_45 ?_
          refine k_i (r_V C h hl (As := [.ref (G (20 + 4))]) (rest := []) (c_X11_word l D G b0 f M k1 4 (by decide) (by decide)) k1 (Cn := RX11) (T := TX11) (N := 32) rfl rfl mk_X11_word w_1574 w_1576 w_43 w_1577 ⟨Nat.le_of_ble_eq_true rfl, Nat.le_of_ble_eq_true rfl⟩ rfl (Nat.le_of_ble_eq_true rfl) ⟨Nat.le_of_ble_eq_true rfl, Nat.le_of_ble_eq_true rfl⟩ rfl dX11_stepHere_47) h (fun r_423 f_424 H locs p_425 h => ?_)
          obtain ⟨rfl, rfl⟩ := p_425
          refine lv_if_eq (tgt := 55) hx hb dX11_stepHere_50 (by decide) (fun c_426 => ?_) (fun c_426 => ?_)
          · refine lv_aload_n hx hb dX11_stepHere_55 rfl (lv_at hl 0 rfl) ?_
            refine va_ldcS hx hb hown (hstr ("QuarterWalksModel", 128, "sw", 5) (by decide)) dX11_stepHere_56 ?_
            refine k_i (r_V C h hl (As := [.ref (G (20 + 5))]) (rest := []) (c_X11_word l D G b0 f M k1 5 (by decide) (by decide)) k1 (Cn := RX11) (T := TX11) (N := 32) rfl rfl mk_X11_word w_1574 w_1576 w_43 w_1577 ⟨Nat.le_of_ble_eq_true rfl, Nat.le_of_ble_eq_true rfl⟩ rfl (Nat.le_of_ble_eq_true rfl) ⟨Nat.le_of_ble_eq_true rfl, Nat.le_of_ble_eq_true rfl⟩ rfl dX11_stepHere_58) h (fun r_427 f_428 H locs p_429 h => ?_)
            obtain ⟨rfl, rfl⟩ := p_429
            refine lv_if_eq (tgt := 66) hx hb dX11_stepHere_61 (by decide) (fun c_430 => ?_) (fun c_430 => ?_)
            · refine lv_aload_n hx hb dX11_stepHere_66 rfl (lv_at hl 0 rfl) ?_
              refine va_ldcS hx hb hown (hstr ("QuarterWalksModel", 130, "w", 6) (by decide)) dX11_stepHere_67 ?_
              refine k_i (r_V C h hl (As := [.ref (G (20 + 6))]) (rest := []) (c_X11_word l D G b0 f M k1 6 (by decide) (by decide)) k1 (Cn := RX11) (T := TX11) (N := 32) rfl rfl mk_X11_word w_1574 w_1576 w_43 w_1577 ⟨Nat.le_of_ble_eq_true rfl, Nat.le_of_ble_eq_true rfl⟩ rfl (Nat.le_of_ble_eq_true rfl) ⟨Nat.le_of_ble_eq_true rfl, Nat.le_of_ble_eq_true rfl⟩ rfl dX11_stepHere_69) h (fun r_431 f_432 H locs p_433 h => ?_)
              obtain ⟨rfl, rfl⟩ := p_433
              refine lv_if_eq (tgt := 78) hx hb dX11_stepHere_72 (by decide) (fun c_434 => ?_) (fun c_434 => ?_)
              · refine lv_aload_n hx hb dX11_stepHere_78 rfl (lv_at hl 0 rfl) ?_
                refine va_ldcS hx hb hown (hstr ("QuarterWalksModel", 132, "nw", 7) (by decide)) dX11_stepHere_79 ?_
                refine k_i (r_V C h hl (As := [.ref (G (20 + 7))]) (rest := []) (c_X11_word l D G b0 f M k1 7 (by decide) (by decide)) k1 (Cn := RX11) (T := TX11) (N := 32) rfl rfl mk_X11_word w_1574 w_1576 w_43 w_1577 ⟨Nat.le_of_ble_eq_true rfl, Nat.le_of_ble_eq_true rfl⟩ rfl (Nat.le_of_ble_eq_true rfl) ⟨Nat.le_of_ble_eq_true rfl, Nat.le_of_ble_eq_true rfl⟩ rfl dX11_stepHere_81) h (fun r_435 f_436 H locs p_437 h => ?_)
                obtain ⟨rfl, rfl⟩ := p_437
                refine lv_if_eq (tgt := 92) hx hb dX11_stepHere_84 (by decide) (fun c_438 => ?_) (fun c_438 => ?_)
                · refine lv_iconst (v := -1) hx hb dX11_stepHere_92 (by decide) ?_
                  exact q_iret C h hr (⟨rfl, rfl⟩) (Nat.le_of_ble_eq_true rfl) (Nat.le_of_ble_eq_true rfl) dX11_stepHere_93
                · exact absurd c_438 (by decide)
              · exact absurd c_434 (by decide)
            · exact absurd c_430 (by decide)
          · exact absurd c_426 (by decide)
        · exact absurd c_422 (by decide)
      · exact absurd c_418 (by decide)
    · exact absurd c_414 (by decide)
  · exact absurd c_410 (by decide)
set_option maxRecDepth 100000 in
set_option maxHeartbeats 4000000 in
theorem c_X11_fails (l : Launch) (D : va_G) (G : Nat → Nat) (b0 : Nat) (f : hM) (M : Nat → Nat) (k1 : f (M 0) = some (.inr (12, [.int 0, .ref (M 1), .int 0, .int 0, .int (-1), .ref (M 2), .ref (M 3), .ref (M 4), .ref (M 5), .ref (M 6), .int 0, .int 0, .ref (M 7), .ref (M 8), .int 0, .ref (M 9), .ref (M 10), .ref (M 11), .long 0, .ref (M 12), .ref (M 13), .ref (M 14), .ref (M 15), .ref (M 16), .ref (M 17), .ref (M 18), .ref (M 19), .int 0, .int 0, .ref (M 20), .ref (M 21), .int 0]))) : mV l yX11_fails cX11_fails 2 { frames := 0, cells := 0, slots := 0, locals := 0 } D G b0 f [.ref (M 0), .int 0] (fun f1 => hu f (M 0) (.inr (12, [.int 0, .ref (M 1), .int 0, .int 0, .int 0, .ref (M 2), .ref (M 3), .ref (M 4), .ref (M 5), .ref (M 6), .int 0, .int 0, .ref (M 7), .ref (M 8), .int 0, .ref (M 9), .ref (M 10), .ref (M 11), .long 0, .ref (M 12), .ref (M 13), .ref (M 14), .ref (M 15), .ref (M 16), .ref (M 17), .ref (M 18), .ref (M 19), .int 0, .int 0, .ref (M 20), .ref (M 21), .int 0])) = f1) := by
  refine met_of (own := RX11) (by decide) rfl (Nat.le_of_ble_eq_true rfl) ?_
  intro p e s m below meth c ls C hr hini hl h
  have hl : lv_has ls 2 [(0, .ref (M 0)), (1, .int 0)] := hl
  obtain ⟨hx, hb, hml, hown, hts, hE0, hlk⟩ := id C
  refine lv_aload_n hx hb dX11_fails_0 rfl (lv_at hl 0 rfl) ?_
  refine q_get C h k1 fl_X11_97 (v := .int (-1)) rfl dX11_fails_1 ?_
  refine lv_iconst (v := -1) hx hb dX11_fails_4 (by decide) ?_
  refine lv_icmp_ne (tgt := 13) hx hb dX11_fails_5 (by decide) (fun c_439 => ?_) (fun c_439 => ?_)
  · exact absurd c_439 (by decide)
  · refine lv_aload_n hx hb dX11_fails_8 rfl (lv_at hl 0 rfl) ?_
    refine lv_iload_n hx hb dX11_fails_9 rfl (lv_at hl 1 rfl) ?_
    refine q_put C h k1 flw_X11_97 (Or.inr ⟨_, _, _, rfl, rfl⟩) (v := .int 0) rfl rfl (Nat.le_of_ble_eq_true rfl) dX11_fails_10 (fun H locs h => ?_)
    have h : hw D b0 s.heap (hu f (M 0) (.inr (12, [.int 0, .ref (M 1), .int 0, .int 0, .int 0, .ref (M 2), .ref (M 3), .ref (M 4), .ref (M 5), .ref (M 6), .int 0, .int 0, .ref (M 7), .ref (M 8), .int 0, .ref (M 9), .ref (M 10), .ref (M 11), .long 0, .ref (M 12), .ref (M 13), .ref (M 14), .ref (M 15), .ref (M 16), .ref (M 17), .ref (M 18), .ref (M 19), .int 0, .int 0, .ref (M 20), .ref (M 21), .int 0]))) H locs := h
    generalize ef_440 : hu f (M 0) (.inr (12, [.int 0, .ref (M 1), .int 0, .int 0, .int 0, .ref (M 2), .ref (M 3), .ref (M 4), .ref (M 5), .ref (M 6), .int 0, .int 0, .ref (M 7), .ref (M 8), .int 0, .ref (M 9), .ref (M 10), .ref (M 11), .long 0, .ref (M 12), .ref (M 13), .ref (M 14), .ref (M 15), .ref (M 16), .ref (M 17), .ref (M 18), .ref (M 19), .int 0, .int 0, .ref (M 20), .ref (M 21), .int 0])) = f_440 at h
    have k_441 : f_440 (M 0) = some (.inr (12, [.int 0, .ref (M 1), .int 0, .int 0, .int 0, .ref (M 2), .ref (M 3), .ref (M 4), .ref (M 5), .ref (M 6), .int 0, .int 0, .ref (M 7), .ref (M 8), .int 0, .ref (M 9), .ref (M 10), .ref (M 11), .long 0, .ref (M 12), .ref (M 13), .ref (M 14), .ref (M 15), .ref (M 16), .ref (M 17), .ref (M 18), .ref (M 19), .int 0, .int 0, .ref (M 20), .ref (M 21), .int 0])) := by rw [← ef_440]; exact hu_self _ _ _
    exact q_vret C h hr (by first | exact ef_440 | rfl) (Nat.le_of_ble_eq_true rfl) (Nat.le_of_ble_eq_true rfl) dX11_fails_13
set_option maxRecDepth 100000 in
set_option maxHeartbeats 4000000 in
theorem c_X11_readsStep (l : Launch) (D : va_G) (G : Nat → Nat) (b0 : Nat) (f : hM) (M : Nat → Nat) (k1 : f (M 0) = some (.inr (12, [.int 0, .ref (M 1), .int 0, .int 0, .int (-1), .ref (M 2), .ref (M 3), .ref (M 4), .ref (M 5), .ref (M 6), .int 0, .int 0, .ref (M 7), .ref (M 8), .int 0, .ref (M 9), .ref (M 10), .ref (M 11), .long 0, .ref (M 12), .ref (M 13), .ref (M 14), .ref (M 15), .ref (M 16), .ref (M 17), .ref (M 18), .ref (M 19), .int 0, .int 0, .ref (M 20), .ref (M 21), .int 0]))) : mV l yX11_readsStep cX11_readsStep 4 { frames := 4, cells := 0, slots := 0, locals := 83 } D G b0 f [.ref (M 0)] (fun f1 => hu f (M 0) (.inr (12, [.int 0, .ref (M 1), .int 0, .int 0, .int 0, .ref (M 2), .ref (M 3), .ref (M 4), .ref (M 5), .ref (M 6), .int 0, .int 0, .ref (M 7), .ref (M 8), .int 0, .ref (M 9), .ref (M 10), .ref (M 11), .long 0, .ref (M 12), .ref (M 13), .ref (M 14), .ref (M 15), .ref (M 16), .ref (M 17), .ref (M 18), .ref (M 19), .int 0, .int 0, .ref (M 20), .ref (M 21), .int 0])) = f1) := by
  refine met_of (own := RX11) (by decide) rfl (Nat.le_of_ble_eq_true rfl) ?_
  intro p e s m below meth c ls C hr hini hl h
  have hl : lv_has ls 4 [(0, .ref (M 0))] := hl
  obtain ⟨hx, hb, hml, hown, hts, hE0, hlk⟩ := id C
  refine lv_aload_n hx hb dX11_readsStep_0 rfl (lv_at hl 0 rfl) ?_
  refine k_i (r_V C h hl (As := []) (rest := []) (c_X11_look l D G b0 f M k1) k1 (Cn := RX11) (T := TX11) (N := 32) rfl rfl mk_X11_look w_1561 w_1563 w_40 w_1564 ⟨Nat.le_of_ble_eq_true rfl, Nat.le_of_ble_eq_true rfl⟩ rfl (Nat.le_of_ble_eq_true rfl) ⟨Nat.le_of_ble_eq_true rfl, Nat.le_of_ble_eq_true rfl⟩ rfl dX11_readsStep_1) h (fun r_442 f_443 H locs p_444 h => ?_)
  obtain ⟨rfl, rfl⟩ := p_444
  refine lv_istore_n (lv' := [(1, .int (-1)), (0, .ref (M 0))]) hx hb dX11_readsStep_4 rfl hl (by decide) rfl (fun ls hl => ?_)
  refine lv_aload_n hx hb dX11_readsStep_5 rfl (lv_at hl 1 rfl) ?_
  refine q_get C h k1 fl_X11_90 (v := .int 0) rfl dX11_readsStep_6 ?_
  refine lv_istore_n (lv' := [(2, .int 0), (1, .int (-1)), (0, .ref (M 0))]) hx hb dX11_readsStep_9 rfl hl (by decide) rfl (fun ls hl => ?_)
  refine lv_aload_n hx hb dX11_readsStep_10 rfl (lv_at hl 2 rfl) ?_
  refine k_i (r_V C h hl (As := []) (rest := []) (c_X11_stepHere l D G b0 f M k1) k1 (Cn := RX11) (T := TX11) (N := 32) rfl rfl mk_X11_stepHere w_1569 w_1571 w_42 w_1572 ⟨Nat.le_of_ble_eq_true rfl, Nat.le_of_ble_eq_true rfl⟩ rfl (Nat.le_of_ble_eq_true rfl) ⟨Nat.le_of_ble_eq_true rfl, Nat.le_of_ble_eq_true rfl⟩ rfl dX11_readsStep_11) h (fun r_445 f_446 H locs p_447 h => ?_)
  obtain ⟨rfl, rfl⟩ := p_447
  refine lv_istore_n (lv' := [(3, .int (-1)), (2, .int 0), (1, .int (-1)), (0, .ref (M 0))]) hx hb dX11_readsStep_14 rfl hl (by decide) rfl (fun ls hl => ?_)
  refine lv_iload_n hx hb dX11_readsStep_15 rfl (lv_at hl 0 rfl) ?_
  refine lv_iconst (v := -1) hx hb dX11_readsStep_16 (by decide) ?_
  refine lv_icmp_eq (tgt := 29) hx hb dX11_readsStep_17 (by decide) (fun c_448 => ?_) (fun c_448 => ?_)
  · refine lv_aload_n hx hb dX11_readsStep_29 rfl (lv_at hl 3 rfl) ?_
    refine lv_iload_n hx hb dX11_readsStep_30 rfl (lv_at hl 1 rfl) ?_
    refine k_v (r_V C h hl (As := [.int 0]) (rest := []) (c_X11_fails l D G b0 f M k1) k1 (Cn := RX11) (T := TX11) (N := 32) rfl rfl mk_X11_fails w_1587 w_1589 w_44 w_1590 ⟨Nat.le_of_ble_eq_true rfl, Nat.le_of_ble_eq_true rfl⟩ rfl (Nat.le_of_ble_eq_true rfl) ⟨Nat.le_of_ble_eq_true rfl, Nat.le_of_ble_eq_true rfl⟩ rfl dX11_readsStep_31) h (fun f_450 H locs p_451 h => ?_)
    have k_452 : f_450 (M 0) = some (.inr (12, [.int 0, .ref (M 1), .int 0, .int 0, .int 0, .ref (M 2), .ref (M 3), .ref (M 4), .ref (M 5), .ref (M 6), .int 0, .int 0, .ref (M 7), .ref (M 8), .int 0, .ref (M 9), .ref (M 10), .ref (M 11), .long 0, .ref (M 12), .ref (M 13), .ref (M 14), .ref (M 15), .ref (M 16), .ref (M 17), .ref (M 18), .ref (M 19), .int 0, .int 0, .ref (M 20), .ref (M 21), .int 0])) := by rw [← p_451]; exact hu_self _ _ _
    exact q_vret C h hr (by first | exact p_451 | rfl) (Nat.le_of_ble_eq_true rfl) (Nat.le_of_ble_eq_true rfl) dX11_readsStep_34
  · exact absurd c_448 (by decide)
set_option maxRecDepth 100000 in
set_option maxHeartbeats 4000000 in
theorem c_X11_reads (l : Launch) (D : va_G) (G : Nat → Nat) (b0 : Nat) (f : hM) (M : Nat → Nat) (hM : mw G f M) : mI l yX11_reads cX11_reads 2 (.int) { frames := 5, cells := 0, slots := 0, locals := 106 } D G b0 f [.ref (M 0)] (fun r f1 => (0 : Int32) = r ∧ f = f1) := by
  refine met_of (own := RX11) (by decide) rfl (Nat.le_of_ble_eq_true rfl) ?_
  intro p e s m below meth c ls C hr hini hl h
  have hl : lv_has ls 2 [(0, .ref (M 0))] := hl
  obtain ⟨hx, hb, hml, hown, hts, hE0, hlk⟩ := id C
  obtain ⟨km0, km1, km2, km3, km4, km5⟩ := hM
  refine lv_aload_n hx hb dX11_reads_0 rfl (lv_at hl 0 rfl) ?_
  refine lv_iconst (v := 0) hx hb dX11_reads_1 (by decide) ?_
  refine q_put C h km0 flw_X11_90 (Or.inr ⟨_, _, _, rfl, rfl⟩) (v := .int 0) rfl rfl (Nat.le_of_ble_eq_true rfl) dX11_reads_2 (fun H locs h => ?_)
  have h : hw D b0 s.heap (hu f (M 0) (.inr (12, [.int 0, .ref (M 1), .int 0, .int 0, .int 0, .ref (M 2), .ref (M 3), .ref (M 4), .ref (M 5), .ref (M 6), .int 0, .int 0, .ref (M 7), .ref (M 8), .int 0, .ref (M 9), .ref (M 10), .ref (M 11), .long 0, .ref (M 12), .ref (M 13), .ref (M 14), .ref (M 15), .ref (M 16), .ref (M 17), .ref (M 18), .ref (M 19), .int 0, .int 0, .ref (M 20), .ref (M 21), .int 0]))) H locs := h
  rw [hu_id km0] at h
  refine lv_aload_n hx hb dX11_reads_5 rfl (lv_at hl 0 rfl) ?_
  refine lv_iconst (v := -1) hx hb dX11_reads_6 (by decide) ?_
  refine q_put C h km0 flw_X11_97 (Or.inr ⟨_, _, _, rfl, rfl⟩) (v := .int (-1)) rfl rfl (Nat.le_of_ble_eq_true rfl) dX11_reads_7 (fun H locs h => ?_)
  have h : hw D b0 s.heap (hu f (M 0) (.inr (12, [.int 0, .ref (M 1), .int 0, .int 0, .int (-1), .ref (M 2), .ref (M 3), .ref (M 4), .ref (M 5), .ref (M 6), .int 0, .int 0, .ref (M 7), .ref (M 8), .int 0, .ref (M 9), .ref (M 10), .ref (M 11), .long 0, .ref (M 12), .ref (M 13), .ref (M 14), .ref (M 15), .ref (M 16), .ref (M 17), .ref (M 18), .ref (M 19), .int 0, .int 0, .ref (M 20), .ref (M 21), .int 0]))) H locs := h
  generalize ef_453 : hu f (M 0) (.inr (12, [.int 0, .ref (M 1), .int 0, .int 0, .int (-1), .ref (M 2), .ref (M 3), .ref (M 4), .ref (M 5), .ref (M 6), .int 0, .int 0, .ref (M 7), .ref (M 8), .int 0, .ref (M 9), .ref (M 10), .ref (M 11), .long 0, .ref (M 12), .ref (M 13), .ref (M 14), .ref (M 15), .ref (M 16), .ref (M 17), .ref (M 18), .ref (M 19), .int 0, .int 0, .ref (M 20), .ref (M 21), .int 0])) = f_453 at h
  have k_454 : f_453 (M 1) = some (.inl (G 0, 200, .inl (fun _ => 0))) := by rw [← ef_453]; exact hu_at km1 (hne (4, 12) (1, 200) km0 km1 rfl rfl (by decide))
  have k_455 : f_453 (M 2) = some (.inl (G 1, 10, .inl (fun _ => 0))) := by rw [← ef_453]; exact hu_at km2 (hne (4, 12) (1, 10) km0 km2 rfl rfl (by decide))
  have k_456 : f_453 (M 3) = some (.inl (G 1, 81, .inl (fun _ => 0))) := by rw [← ef_453]; exact hu_at km3 (hne (4, 12) (1, 81) km0 km3 rfl rfl (by decide))
  have k_457 : f_453 (M 4) = some (.inl (G 1, 81, .inl (fun _ => 0))) := by rw [← ef_453]; exact hu_at km4 (hne (4, 12) (1, 81) km0 km4 rfl rfl (by decide))
  have k_458 : f_453 (M 6) = some (.inl (G 1, 4, .inl (fun _ => 0))) := by rw [← ef_453]; exact hu_at km5 (hne (4, 12) (1, 4) km0 km5 rfl rfl (by decide))
  have k_459 : f_453 (M 0) = some (.inr (12, [.int 0, .ref (M 1), .int 0, .int 0, .int (-1), .ref (M 2), .ref (M 3), .ref (M 4), .ref (M 5), .ref (M 6), .int 0, .int 0, .ref (M 7), .ref (M 8), .int 0, .ref (M 9), .ref (M 10), .ref (M 11), .long 0, .ref (M 12), .ref (M 13), .ref (M 14), .ref (M 15), .ref (M 16), .ref (M 17), .ref (M 18), .ref (M 19), .int 0, .int 0, .ref (M 20), .ref (M 21), .int 0])) := by rw [← ef_453]; exact hu_self _ _ _
  refine lv_iconst (v := 0) hx hb dX11_reads_10 (by decide) ?_
  refine lv_istore_n (lv' := [(1, .int 0), (0, .ref (M 0))]) hx hb dX11_reads_11 rfl hl (by decide) rfl (fun ls hl => ?_)
  refine lv_iload_n hx hb dX11_reads_12 rfl (lv_at hl 0 rfl) ?_
  refine lv_bipush (v := 10) hx hb dX11_reads_13 (by decide) ?_
  refine lv_icmp_ge (tgt := 31) hx hb dX11_reads_15 (by decide) (fun c_460 => ?_) (fun c_460 => ?_)
  · exact absurd c_460 (by decide)
  · refine lv_aload_n hx hb dX11_reads_18 rfl (lv_at hl 1 rfl) ?_
    refine q_get C h k_459 fl_X11_13 (v := .ref (M 2)) rfl dX11_reads_19 ?_
    refine lv_iload_n hx hb dX11_reads_22 rfl (lv_at hl 0 rfl) ?_
    refine lv_iconst (v := 0) hx hb dX11_reads_23 (by decide) ?_
    refine q_iast C h k_455 (by unfold vp_in; decide) dX11_reads_24 (fun H locs h => ?_)
    rw [upd0] at h
    rw [hu_id k_455] at h
    refine lv_iinc (v := 1) (lv' := [(1, .int 1), (0, .ref (M 0))]) hx hb dX11_reads_25 hl (k := 0) rfl (by decide) (by decide) rfl (fun ls hl => ?_)
    refine lv_goto (tgt := 12) hx hb dX11_reads_28 (by decide) ?_
    refine lv_iload_n hx hb dX11_reads_12 rfl (lv_at hl 0 rfl) ?_
    refine lv_bipush (v := 10) hx hb dX11_reads_13 (by decide) ?_
    refine lv_icmp_ge (tgt := 31) hx hb dX11_reads_15 (by decide) (fun c_462 => ?_) (fun c_462 => ?_)
    · exact absurd c_462 (by decide)
    · refine lv_aload_n hx hb dX11_reads_18 rfl (lv_at hl 1 rfl) ?_
      refine q_get C h k_459 fl_X11_13 (v := .ref (M 2)) rfl dX11_reads_19 ?_
      refine lv_iload_n hx hb dX11_reads_22 rfl (lv_at hl 0 rfl) ?_
      refine lv_iconst (v := 0) hx hb dX11_reads_23 (by decide) ?_
      refine q_iast C h k_455 (by unfold vp_in; decide) dX11_reads_24 (fun H locs h => ?_)
      rw [upd0] at h
      rw [hu_id k_455] at h
      refine lv_iinc (v := 2) (lv' := [(1, .int 2), (0, .ref (M 0))]) hx hb dX11_reads_25 hl (k := 0) rfl (by decide) (by decide) rfl (fun ls hl => ?_)
      refine lv_goto (tgt := 12) hx hb dX11_reads_28 (by decide) ?_
      refine lv_iload_n hx hb dX11_reads_12 rfl (lv_at hl 0 rfl) ?_
      refine lv_bipush (v := 10) hx hb dX11_reads_13 (by decide) ?_
      refine lv_icmp_ge (tgt := 31) hx hb dX11_reads_15 (by decide) (fun c_464 => ?_) (fun c_464 => ?_)
      · exact absurd c_464 (by decide)
      · refine lv_aload_n hx hb dX11_reads_18 rfl (lv_at hl 1 rfl) ?_
        refine q_get C h k_459 fl_X11_13 (v := .ref (M 2)) rfl dX11_reads_19 ?_
        refine lv_iload_n hx hb dX11_reads_22 rfl (lv_at hl 0 rfl) ?_
        refine lv_iconst (v := 0) hx hb dX11_reads_23 (by decide) ?_
        refine q_iast C h k_455 (by unfold vp_in; decide) dX11_reads_24 (fun H locs h => ?_)
        rw [upd0] at h
        rw [hu_id k_455] at h
        refine lv_iinc (v := 3) (lv' := [(1, .int 3), (0, .ref (M 0))]) hx hb dX11_reads_25 hl (k := 0) rfl (by decide) (by decide) rfl (fun ls hl => ?_)
        refine lv_goto (tgt := 12) hx hb dX11_reads_28 (by decide) ?_
        refine lv_iload_n hx hb dX11_reads_12 rfl (lv_at hl 0 rfl) ?_
        refine lv_bipush (v := 10) hx hb dX11_reads_13 (by decide) ?_
        refine lv_icmp_ge (tgt := 31) hx hb dX11_reads_15 (by decide) (fun c_466 => ?_) (fun c_466 => ?_)
        · exact absurd c_466 (by decide)
        · refine lv_aload_n hx hb dX11_reads_18 rfl (lv_at hl 1 rfl) ?_
          refine q_get C h k_459 fl_X11_13 (v := .ref (M 2)) rfl dX11_reads_19 ?_
          refine lv_iload_n hx hb dX11_reads_22 rfl (lv_at hl 0 rfl) ?_
          refine lv_iconst (v := 0) hx hb dX11_reads_23 (by decide) ?_
          refine q_iast C h k_455 (by unfold vp_in; decide) dX11_reads_24 (fun H locs h => ?_)
          rw [upd0] at h
          rw [hu_id k_455] at h
          refine lv_iinc (v := 4) (lv' := [(1, .int 4), (0, .ref (M 0))]) hx hb dX11_reads_25 hl (k := 0) rfl (by decide) (by decide) rfl (fun ls hl => ?_)
          refine lv_goto (tgt := 12) hx hb dX11_reads_28 (by decide) ?_
          refine lv_iload_n hx hb dX11_reads_12 rfl (lv_at hl 0 rfl) ?_
          refine lv_bipush (v := 10) hx hb dX11_reads_13 (by decide) ?_
          refine lv_icmp_ge (tgt := 31) hx hb dX11_reads_15 (by decide) (fun c_468 => ?_) (fun c_468 => ?_)
          · exact absurd c_468 (by decide)
          · refine lv_aload_n hx hb dX11_reads_18 rfl (lv_at hl 1 rfl) ?_
            refine q_get C h k_459 fl_X11_13 (v := .ref (M 2)) rfl dX11_reads_19 ?_
            refine lv_iload_n hx hb dX11_reads_22 rfl (lv_at hl 0 rfl) ?_
            refine lv_iconst (v := 0) hx hb dX11_reads_23 (by decide) ?_
            refine q_iast C h k_455 (by unfold vp_in; decide) dX11_reads_24 (fun H locs h => ?_)
            rw [upd0] at h
            rw [hu_id k_455] at h
            refine lv_iinc (v := 5) (lv' := [(1, .int 5), (0, .ref (M 0))]) hx hb dX11_reads_25 hl (k := 0) rfl (by decide) (by decide) rfl (fun ls hl => ?_)
            refine lv_goto (tgt := 12) hx hb dX11_reads_28 (by decide) ?_
            refine lv_iload_n hx hb dX11_reads_12 rfl (lv_at hl 0 rfl) ?_
            refine lv_bipush (v := 10) hx hb dX11_reads_13 (by decide) ?_
            refine lv_icmp_ge (tgt := 31) hx hb dX11_reads_15 (by decide) (fun c_470 => ?_) (fun c_470 => ?_)
            · exact absurd c_470 (by decide)
            · refine lv_aload_n hx hb dX11_reads_18 rfl (lv_at hl 1 rfl) ?_
              refine q_get C h k_459 fl_X11_13 (v := .ref (M 2)) rfl dX11_reads_19 ?_
              refine lv_iload_n hx hb dX11_reads_22 rfl (lv_at hl 0 rfl) ?_
              refine lv_iconst (v := 0) hx hb dX11_reads_23 (by decide) ?_
              refine q_iast C h k_455 (by unfold vp_in; decide) dX11_reads_24 (fun H locs h => ?_)
              rw [upd0] at h
              rw [hu_id k_455] at h
              refine lv_iinc (v := 6) (lv' := [(1, .int 6), (0, .ref (M 0))]) hx hb dX11_reads_25 hl (k := 0) rfl (by decide) (by decide) rfl (fun ls hl => ?_)
              refine lv_goto (tgt := 12) hx hb dX11_reads_28 (by decide) ?_
              refine lv_iload_n hx hb dX11_reads_12 rfl (lv_at hl 0 rfl) ?_
              refine lv_bipush (v := 10) hx hb dX11_reads_13 (by decide) ?_
              refine lv_icmp_ge (tgt := 31) hx hb dX11_reads_15 (by decide) (fun c_472 => ?_) (fun c_472 => ?_)
              · exact absurd c_472 (by decide)
              · refine lv_aload_n hx hb dX11_reads_18 rfl (lv_at hl 1 rfl) ?_
                refine q_get C h k_459 fl_X11_13 (v := .ref (M 2)) rfl dX11_reads_19 ?_
                refine lv_iload_n hx hb dX11_reads_22 rfl (lv_at hl 0 rfl) ?_
                refine lv_iconst (v := 0) hx hb dX11_reads_23 (by decide) ?_
                refine q_iast C h k_455 (by unfold vp_in; decide) dX11_reads_24 (fun H locs h => ?_)
                rw [upd0] at h
                rw [hu_id k_455] at h
                refine lv_iinc (v := 7) (lv' := [(1, .int 7), (0, .ref (M 0))]) hx hb dX11_reads_25 hl (k := 0) rfl (by decide) (by decide) rfl (fun ls hl => ?_)
                refine lv_goto (tgt := 12) hx hb dX11_reads_28 (by decide) ?_
                refine lv_iload_n hx hb dX11_reads_12 rfl (lv_at hl 0 rfl) ?_
                refine lv_bipush (v := 10) hx hb dX11_reads_13 (by decide) ?_
                refine lv_icmp_ge (tgt := 31) hx hb dX11_reads_15 (by decide) (fun c_474 => ?_) (fun c_474 => ?_)
                · exact absurd c_474 (by decide)
                · refine lv_aload_n hx hb dX11_reads_18 rfl (lv_at hl 1 rfl) ?_
                  refine q_get C h k_459 fl_X11_13 (v := .ref (M 2)) rfl dX11_reads_19 ?_
                  refine lv_iload_n hx hb dX11_reads_22 rfl (lv_at hl 0 rfl) ?_
                  refine lv_iconst (v := 0) hx hb dX11_reads_23 (by decide) ?_
                  refine q_iast C h k_455 (by unfold vp_in; decide) dX11_reads_24 (fun H locs h => ?_)
                  rw [upd0] at h
                  rw [hu_id k_455] at h
                  refine lv_iinc (v := 8) (lv' := [(1, .int 8), (0, .ref (M 0))]) hx hb dX11_reads_25 hl (k := 0) rfl (by decide) (by decide) rfl (fun ls hl => ?_)
                  refine lv_goto (tgt := 12) hx hb dX11_reads_28 (by decide) ?_
                  refine lv_iload_n hx hb dX11_reads_12 rfl (lv_at hl 0 rfl) ?_
                  refine lv_bipush (v := 10) hx hb dX11_reads_13 (by decide) ?_
                  refine lv_icmp_ge (tgt := 31) hx hb dX11_reads_15 (by decide) (fun c_476 => ?_) (fun c_476 => ?_)
                  · exact absurd c_476 (by decide)
                  · refine lv_aload_n hx hb dX11_reads_18 rfl (lv_at hl 1 rfl) ?_
                    refine q_get C h k_459 fl_X11_13 (v := .ref (M 2)) rfl dX11_reads_19 ?_
                    refine lv_iload_n hx hb dX11_reads_22 rfl (lv_at hl 0 rfl) ?_
                    refine lv_iconst (v := 0) hx hb dX11_reads_23 (by decide) ?_
                    refine q_iast C h k_455 (by unfold vp_in; decide) dX11_reads_24 (fun H locs h => ?_)
                    rw [upd0] at h
                    rw [hu_id k_455] at h
                    refine lv_iinc (v := 9) (lv' := [(1, .int 9), (0, .ref (M 0))]) hx hb dX11_reads_25 hl (k := 0) rfl (by decide) (by decide) rfl (fun ls hl => ?_)
                    refine lv_goto (tgt := 12) hx hb dX11_reads_28 (by decide) ?_
                    refine lv_iload_n hx hb dX11_reads_12 rfl (lv_at hl 0 rfl) ?_
                    refine lv_bipush (v := 10) hx hb dX11_reads_13 (by decide) ?_
                    refine lv_icmp_ge (tgt := 31) hx hb dX11_reads_15 (by decide) (fun c_478 => ?_) (fun c_478 => ?_)
                    · exact absurd c_478 (by decide)
                    · refine lv_aload_n hx hb dX11_reads_18 rfl (lv_at hl 1 rfl) ?_
                      refine q_get C h k_459 fl_X11_13 (v := .ref (M 2)) rfl dX11_reads_19 ?_
                      refine lv_iload_n hx hb dX11_reads_22 rfl (lv_at hl 0 rfl) ?_
                      refine lv_iconst (v := 0) hx hb dX11_reads_23 (by decide) ?_
                      refine q_iast C h k_455 (by unfold vp_in; decide) dX11_reads_24 (fun H locs h => ?_)
                      rw [upd0] at h
                      rw [hu_id k_455] at h
                      refine lv_iinc (v := 10) (lv' := [(1, .int 10), (0, .ref (M 0))]) hx hb dX11_reads_25 hl (k := 0) rfl (by decide) (by decide) rfl (fun ls hl => ?_)
                      refine lv_goto (tgt := 12) hx hb dX11_reads_28 (by decide) ?_
                      refine lv_iload_n hx hb dX11_reads_12 rfl (lv_at hl 0 rfl) ?_
                      refine lv_bipush (v := 10) hx hb dX11_reads_13 (by decide) ?_
                      refine lv_icmp_ge (tgt := 31) hx hb dX11_reads_15 (by decide) (fun c_480 => ?_) (fun c_480 => ?_)
                      · refine lv_aload_n hx hb dX11_reads_31 rfl (lv_at hl 1 rfl) ?_
                        refine k_v (r_V C h hl (As := []) (rest := []) (c_X11_readsStep l D G b0 f_453 M k_459) k_459 (Cn := RX11) (T := TX11) (N := 32) rfl rfl mk_X11_readsStep w_1557 w_1559 w_39 w_1560 ⟨Nat.le_of_ble_eq_true rfl, Nat.le_of_ble_eq_true rfl⟩ rfl (Nat.le_of_ble_eq_true rfl) ⟨Nat.le_of_ble_eq_true rfl, Nat.le_of_ble_eq_true rfl⟩ rfl dX11_reads_32) h (fun f_482 H locs p_483 h => ?_)
                        have k_484 : f_482 (M 1) = some (.inl (G 0, 200, .inl (fun _ => 0))) := by rw [← p_483]; exact hu_at k_454 (hne (4, 12) (1, 200) k_459 k_454 rfl rfl (by decide))
                        have k_485 : f_482 (M 2) = some (.inl (G 1, 10, .inl (fun _ => 0))) := by rw [← p_483]; exact hu_at k_455 (hne (4, 12) (1, 10) k_459 k_455 rfl rfl (by decide))
                        have k_486 : f_482 (M 3) = some (.inl (G 1, 81, .inl (fun _ => 0))) := by rw [← p_483]; exact hu_at k_456 (hne (4, 12) (1, 81) k_459 k_456 rfl rfl (by decide))
                        have k_487 : f_482 (M 4) = some (.inl (G 1, 81, .inl (fun _ => 0))) := by rw [← p_483]; exact hu_at k_457 (hne (4, 12) (1, 81) k_459 k_457 rfl rfl (by decide))
                        have k_488 : f_482 (M 6) = some (.inl (G 1, 4, .inl (fun _ => 0))) := by rw [← p_483]; exact hu_at k_458 (hne (4, 12) (1, 4) k_459 k_458 rfl rfl (by decide))
                        have k_489 : f_482 (M 0) = some (.inr (12, [.int 0, .ref (M 1), .int 0, .int 0, .int 0, .ref (M 2), .ref (M 3), .ref (M 4), .ref (M 5), .ref (M 6), .int 0, .int 0, .ref (M 7), .ref (M 8), .int 0, .ref (M 9), .ref (M 10), .ref (M 11), .long 0, .ref (M 12), .ref (M 13), .ref (M 14), .ref (M 15), .ref (M 16), .ref (M 17), .ref (M 18), .ref (M 19), .int 0, .int 0, .ref (M 20), .ref (M 21), .int 0])) := by rw [← p_483]; exact hu_self _ _ _
                        refine lv_aload_n hx hb dX11_reads_35 rfl (lv_at hl 1 rfl) ?_
                        refine q_get C h k_489 fl_X11_97 (v := .int 0) rfl dX11_reads_36 ?_
                        refine lv_iconst (v := -1) hx hb dX11_reads_39 (by decide) ?_
                        refine lv_icmp_ne (tgt := 60) hx hb dX11_reads_40 (by decide) (fun c_490 => ?_) (fun c_490 => ?_)
                        · refine lv_aload_n hx hb dX11_reads_60 rfl (lv_at hl 1 rfl) ?_
                          refine q_get C h k_489 fl_X11_97 (v := .int 0) rfl dX11_reads_61 ?_
                          refine lv_iconst (v := -1) hx hb dX11_reads_64 (by decide) ?_
                          refine lv_icmp_ne (tgt := 81) hx hb dX11_reads_65 (by decide) (fun c_491 => ?_) (fun c_491 => ?_)
                          · refine lv_aload_n hx hb dX11_reads_81 rfl (lv_at hl 1 rfl) ?_
                            refine q_get C h k_489 fl_X11_97 (v := .int 0) rfl dX11_reads_82 ?_
                            refine lv_iconst (v := -1) hx hb dX11_reads_85 (by decide) ?_
                            refine lv_icmp_ne (tgt := 105) hx hb dX11_reads_86 (by decide) (fun c_492 => ?_) (fun c_492 => ?_)
                            · refine lv_aload_n hx hb dX11_reads_105 rfl (lv_at hl 1 rfl) ?_
                              refine q_get C h k_489 fl_X11_97 (v := .int 0) rfl dX11_reads_106 ?_
                              exact q_iret C h hr (⟨rfl, by rw [← p_483, ← ef_453, hu_hu, hu_id km0]⟩) (Nat.le_of_ble_eq_true rfl) (Nat.le_of_ble_eq_true rfl) dX11_reads_109
                            · exact absurd c_492 (by decide)
                          · exact absurd c_491 (by decide)
                        · exact absurd c_490 (by decide)
                      · exact absurd c_480 (by decide)
set_option maxRecDepth 100000 in
set_option maxHeartbeats 4000000 in
theorem c_X11_fault (l : Launch) (D : va_G) (G : Nat → Nat) (b0 : Nat) (f : hM) (M : Nat → Nat) (hM : mw G f M) : mI l yX11_fault cX11_fault 1 (.int) { frames := 6, cells := 0, slots := 0, locals := 127 } D G b0 f [.ref (M 0)] (fun r f1 => (0 : Int32) = r) := by
  refine met_of (own := RX11) (by decide) rfl (Nat.le_of_ble_eq_true rfl) ?_
  intro p e s m below meth c ls C hr hini hl h
  have hl : lv_has ls 1 [(0, .ref (M 0))] := hl
  obtain ⟨hx, hb, hml, hown, hts, hE0, hlk⟩ := id C
  obtain ⟨km0, km1, km2, km3, km4, km5⟩ := hM
  refine lv_aload_n hx hb dX11_fault_0 rfl (lv_at hl 0 rfl) ?_
  refine lv_iconst (v := 0) hx hb dX11_fault_1 (by decide) ?_
  refine q_put C h km0 flw_X11_75 (Or.inr ⟨_, _, _, rfl, rfl⟩) (v := .int 0) rfl rfl (Nat.le_of_ble_eq_true rfl) dX11_fault_2 (fun H locs h => ?_)
  have h : hw D b0 s.heap (hu f (M 0) (.inr (12, [.int 0, .ref (M 1), .int 0, .int 0, .int 0, .ref (M 2), .ref (M 3), .ref (M 4), .ref (M 5), .ref (M 6), .int 0, .int 0, .ref (M 7), .ref (M 8), .int 0, .ref (M 9), .ref (M 10), .ref (M 11), .long 0, .ref (M 12), .ref (M 13), .ref (M 14), .ref (M 15), .ref (M 16), .ref (M 17), .ref (M 18), .ref (M 19), .int 0, .int 0, .ref (M 20), .ref (M 21), .int 0]))) H locs := h
  rw [hu_id km0] at h
  refine lv_aload_n hx hb dX11_fault_5 rfl (lv_at hl 0 rfl) ?_
  refine k_i (r_V C h hl (As := []) (rest := []) (c_X11_reads l D G b0 f M ⟨km0, km1, km2, km3, km4, km5⟩ ) km0 (Cn := RX11) (T := TX11) (N := 32) rfl rfl mk_X11_reads w_1553 w_1555 w_38 w_1556 ⟨Nat.le_of_ble_eq_true rfl, Nat.le_of_ble_eq_true rfl⟩ rfl (Nat.le_of_ble_eq_true rfl) ⟨Nat.le_of_ble_eq_true rfl, Nat.le_of_ble_eq_true rfl⟩ rfl dX11_fault_6) h (fun r_493 f_494 H locs p_495 h => ?_)
  obtain ⟨e_, rfl⟩ := p_495
  subst e_
  exact q_iret C h hr (rfl) (Nat.le_of_ble_eq_true rfl) (Nat.le_of_ble_eq_true rfl) dX11_fault_9
set_option maxRecDepth 100000 in
set_option maxHeartbeats 4000000 in
theorem c_X11_tell (l : Launch) (D : va_G) (G : Nat → Nat) (b0 : Nat) (f : hM) (M : Nat → Nat) (hM : mw G f M) : mI l yX11_tell cX11_tell 1 (.int) { frames := 6, cells := 0, slots := 0, locals := 127 } D G b0 f [.ref (M 0)] (fun r f1 => (-1 : Int32) = r) := by
  refine met_of (own := RX11) (by decide) rfl (Nat.le_of_ble_eq_true rfl) ?_
  intro p e s m below meth c ls C hr hini hl h
  have hl : lv_has ls 1 [(0, .ref (M 0))] := hl
  obtain ⟨hx, hb, hml, hown, hts, hE0, hlk⟩ := id C
  obtain ⟨km0, km1, km2, km3, km4, km5⟩ := hM
  refine lv_aload_n hx hb dX11_tell_0 rfl (lv_at hl 0 rfl) ?_
  refine lv_iconst (v := 0) hx hb dX11_tell_1 (by decide) ?_
  refine q_put C h km0 flw_X11_75 (Or.inr ⟨_, _, _, rfl, rfl⟩) (v := .int 0) rfl rfl (Nat.le_of_ble_eq_true rfl) dX11_tell_2 (fun H locs h => ?_)
  have h : hw D b0 s.heap (hu f (M 0) (.inr (12, [.int 0, .ref (M 1), .int 0, .int 0, .int 0, .ref (M 2), .ref (M 3), .ref (M 4), .ref (M 5), .ref (M 6), .int 0, .int 0, .ref (M 7), .ref (M 8), .int 0, .ref (M 9), .ref (M 10), .ref (M 11), .long 0, .ref (M 12), .ref (M 13), .ref (M 14), .ref (M 15), .ref (M 16), .ref (M 17), .ref (M 18), .ref (M 19), .int 0, .int 0, .ref (M 20), .ref (M 21), .int 0]))) H locs := h
  rw [hu_id km0] at h
  refine lv_aload_n hx hb dX11_tell_5 rfl (lv_at hl 0 rfl) ?_
  refine k_i (r_V C h hl (As := []) (rest := []) (c_X11_reads l D G b0 f M ⟨km0, km1, km2, km3, km4, km5⟩ ) km0 (Cn := RX11) (T := TX11) (N := 32) rfl rfl mk_X11_reads w_1553 w_1555 w_38 w_1556 ⟨Nat.le_of_ble_eq_true rfl, Nat.le_of_ble_eq_true rfl⟩ rfl (Nat.le_of_ble_eq_true rfl) ⟨Nat.le_of_ble_eq_true rfl, Nat.le_of_ble_eq_true rfl⟩ rfl dX11_tell_6) h (fun r_496 f_497 H locs p_498 h => ?_)
  obtain ⟨e_, rfl⟩ := p_498
  subst e_
  refine lv_iconst (v := -1) hx hb dX11_tell_9 (by decide) ?_
  refine lv_icmp_eq (tgt := 19) hx hb dX11_tell_10 (by decide) (fun c_499 => ?_) (fun c_499 => ?_)
  · exact absurd c_499 (by decide)
  · refine lv_aload_n hx hb dX11_tell_13 rfl (lv_at hl 0 rfl) ?_
    refine lv_iconst (v := 0) hx hb dX11_tell_14 (by decide) ?_
    refine k_i (r_V C h hl (As := [.int 0]) (rest := []) (c_X11_refuse l D G b0 f M ⟨km0, km1, km2, km3, km4, km5⟩ ) km0 (Cn := RX11) (T := TX11) (N := 32) rfl rfl mk_X11_refuse w_1608 w_1610 w_48 w_1611 ⟨Nat.le_of_ble_eq_true rfl, Nat.le_of_ble_eq_true rfl⟩ rfl (Nat.le_of_ble_eq_true rfl) ⟨Nat.le_of_ble_eq_true rfl, Nat.le_of_ble_eq_true rfl⟩ rfl dX11_tell_15) h (fun r_500 f_501 H locs p_502 h => ?_)
    subst p_502
    exact q_iret C h hr (rfl) (Nat.le_of_ble_eq_true rfl) (Nat.le_of_ble_eq_true rfl) dX11_tell_18
set_option maxRecDepth 100000 in
set_option maxHeartbeats 4000000 in
theorem c_X11_undo (l : Launch) (D : va_G) (G : Nat → Nat) (b0 : Nat) (f : hM) (M : Nat → Nat) (hM : mw G f M) : mI l yX11_undo cX11_undo 2 (.int) { frames := 0, cells := 0, slots := 0, locals := 0 } D G b0 f [.ref (M 0)] (fun r f1 => (-1 : Int32) = r) := by
  refine met_of (own := RX11) (by decide) rfl (Nat.le_of_ble_eq_true rfl) ?_
  intro p e s m below meth c ls C hr hini hl h
  have hl : lv_has ls 2 [(0, .ref (M 0))] := hl
  obtain ⟨hx, hb, hml, hown, hts, hE0, hlk⟩ := id C
  obtain ⟨km0, km1, km2, km3, km4, km5⟩ := hM
  refine lv_aload_n hx hb dX11_undo_0 rfl (lv_at hl 0 rfl) ?_
  refine lv_iconst (v := 0) hx hb dX11_undo_1 (by decide) ?_
  refine q_put C h km0 flw_X11_75 (Or.inr ⟨_, _, _, rfl, rfl⟩) (v := .int 0) rfl rfl (Nat.le_of_ble_eq_true rfl) dX11_undo_2 (fun H locs h => ?_)
  have h : hw D b0 s.heap (hu f (M 0) (.inr (12, [.int 0, .ref (M 1), .int 0, .int 0, .int 0, .ref (M 2), .ref (M 3), .ref (M 4), .ref (M 5), .ref (M 6), .int 0, .int 0, .ref (M 7), .ref (M 8), .int 0, .ref (M 9), .ref (M 10), .ref (M 11), .long 0, .ref (M 12), .ref (M 13), .ref (M 14), .ref (M 15), .ref (M 16), .ref (M 17), .ref (M 18), .ref (M 19), .int 0, .int 0, .ref (M 20), .ref (M 21), .int 0]))) H locs := h
  rw [hu_id km0] at h
  refine lv_aload_n hx hb dX11_undo_5 rfl (lv_at hl 0 rfl) ?_
  refine q_get C h km0 fl_X11_155 (v := .int 0) rfl dX11_undo_6 ?_
  refine lv_if_ne (tgt := 14) hx hb dX11_undo_9 (by decide) (fun c_503 => ?_) (fun c_503 => ?_)
  · exact absurd c_503 (by decide)
  · refine lv_iconst (v := -1) hx hb dX11_undo_12 (by decide) ?_
    exact q_iret C h hr (rfl) (Nat.le_of_ble_eq_true rfl) (Nat.le_of_ble_eq_true rfl) dX11_undo_13
set_option maxRecDepth 100000 in
set_option maxHeartbeats 4000000 in
theorem c_X11_back (l : Launch) (D : va_G) (G : Nat → Nat) (b0 : Nat) (f : hM) (M : Nat → Nat) (hM : mw G f M) : mI l yX11_back cX11_back 2 (.int) { frames := 0, cells := 0, slots := 0, locals := 0 } D G b0 f [.ref (M 0)] (fun r f1 => (-1 : Int32) = r) := by
  refine met_of (own := RX11) (by decide) rfl (Nat.le_of_ble_eq_true rfl) ?_
  intro p e s m below meth c ls C hr hini hl h
  have hl : lv_has ls 2 [(0, .ref (M 0))] := hl
  obtain ⟨hx, hb, hml, hown, hts, hE0, hlk⟩ := id C
  obtain ⟨km0, km1, km2, km3, km4, km5⟩ := hM
  refine lv_aload_n hx hb dX11_back_0 rfl (lv_at hl 0 rfl) ?_
  refine lv_iconst (v := 0) hx hb dX11_back_1 (by decide) ?_
  refine q_put C h km0 flw_X11_75 (Or.inr ⟨_, _, _, rfl, rfl⟩) (v := .int 0) rfl rfl (Nat.le_of_ble_eq_true rfl) dX11_back_2 (fun H locs h => ?_)
  have h : hw D b0 s.heap (hu f (M 0) (.inr (12, [.int 0, .ref (M 1), .int 0, .int 0, .int 0, .ref (M 2), .ref (M 3), .ref (M 4), .ref (M 5), .ref (M 6), .int 0, .int 0, .ref (M 7), .ref (M 8), .int 0, .ref (M 9), .ref (M 10), .ref (M 11), .long 0, .ref (M 12), .ref (M 13), .ref (M 14), .ref (M 15), .ref (M 16), .ref (M 17), .ref (M 18), .ref (M 19), .int 0, .int 0, .ref (M 20), .ref (M 21), .int 0]))) H locs := h
  rw [hu_id km0] at h
  refine lv_aload_n hx hb dX11_back_5 rfl (lv_at hl 0 rfl) ?_
  refine q_get C h km0 fl_X11_437 (v := .int 0) rfl dX11_back_6 ?_
  refine lv_if_ne (tgt := 14) hx hb dX11_back_9 (by decide) (fun c_504 => ?_) (fun c_504 => ?_)
  · exact absurd c_504 (by decide)
  · refine lv_iconst (v := -1) hx hb dX11_back_12 (by decide) ?_
    exact q_iret C h hr (rfl) (Nat.le_of_ble_eq_true rfl) (Nat.le_of_ble_eq_true rfl) dX11_back_13
set_option maxRecDepth 100000 in
set_option maxHeartbeats 4000000 in
theorem c_X11_unlike (l : Launch) (D : va_G) (G : Nat → Nat) (b0 : Nat) (f : hM) (M : Nat → Nat) (hM : mw G f M) : mI l yX11_unlike cX11_unlike 5 (.int) { frames := 0, cells := 0, slots := 0, locals := 0 } D G b0 f [.ref (M 0)] (fun r f1 => (0 : Int32) = r ∧ f = f1) := by
  refine met_of (own := RX11) (by decide) rfl (Nat.le_of_ble_eq_true rfl) ?_
  intro p e s m below meth c ls C hr hini hl h
  have hl : lv_has ls 5 [(0, .ref (M 0))] := hl
  obtain ⟨hx, hb, hml, hown, hts, hE0, hlk⟩ := id C
  obtain ⟨km0, km1, km2, km3, km4, km5⟩ := hM
  refine lv_iconst (v := 0) hx hb dX11_unlike_0 (by decide) ?_
  refine lv_istore_n (lv' := [(1, .int 0), (0, .ref (M 0))]) hx hb dX11_unlike_1 rfl hl (by decide) rfl (fun ls hl => ?_)
  refine lv_iconst (v := 0) hx hb dX11_unlike_2 (by decide) ?_
  refine lv_istore_n (lv' := [(2, .int 0), (1, .int 0), (0, .ref (M 0))]) hx hb dX11_unlike_3 rfl hl (by decide) rfl (fun ls hl => ?_)
  refine lv_iload_n hx hb dX11_unlike_4 rfl (lv_at hl 0 rfl) ?_
  refine lv_aload_n hx hb dX11_unlike_5 rfl (lv_at hl 2 rfl) ?_
  refine q_get C h km0 fl_X11_17 (v := .ref (M 3)) rfl dX11_unlike_6 ?_
  refine lv_bipush (v := 80) hx hb dX11_unlike_9 (by decide) ?_
  refine q_iald C h km3 (by unfold vp_in; decide) dX11_unlike_11 ?_
  refine lv_topi (fun x_ e_ => ?_)
  obtain rfl : 0 = x_ := e_.symm
  refine lv_icmp_ge (tgt := 68) hx hb dX11_unlike_12 (by decide) (fun c_505 => ?_) (fun c_505 => ?_)
  · refine lv_iload_n hx hb dX11_unlike_68 rfl (lv_at hl 1 rfl) ?_
    exact q_iret C h hr (⟨rfl, rfl⟩) (Nat.le_of_ble_eq_true rfl) (Nat.le_of_ble_eq_true rfl) dX11_unlike_69
  · exact absurd c_505 (by decide)
set_option maxRecDepth 100000 in
set_option maxHeartbeats 4000000 in
theorem c_X11_image (l : Launch) (D : va_G) (G : Nat → Nat) (b0 : Nat) (f : hM) (M : Nat → Nat) (hM : mw G f M) : mI l yX11_image cX11_image 2 (.int) { frames := 0, cells := 0, slots := 0, locals := 0 } D G b0 f [.ref (M 0)] (fun r f1 => (0 : Int32) = r) := by
  refine met_of (own := RX11) (by decide) rfl (Nat.le_of_ble_eq_true rfl) ?_
  intro p e s m below meth c ls C hr hini hl h
  have hl : lv_has ls 2 [(0, .ref (M 0))] := hl
  obtain ⟨hx, hb, hml, hown, hts, hE0, hlk⟩ := id C
  obtain ⟨km0, km1, km2, km3, km4, km5⟩ := hM
  refine lv_aload_n hx hb dX11_image_0 rfl (lv_at hl 0 rfl) ?_
  refine lv_iconst (v := 0) hx hb dX11_image_1 (by decide) ?_
  refine q_put C h km0 flw_X11_75 (Or.inr ⟨_, _, _, rfl, rfl⟩) (v := .int 0) rfl rfl (Nat.le_of_ble_eq_true rfl) dX11_image_2 (fun H locs h => ?_)
  have h : hw D b0 s.heap (hu f (M 0) (.inr (12, [.int 0, .ref (M 1), .int 0, .int 0, .int 0, .ref (M 2), .ref (M 3), .ref (M 4), .ref (M 5), .ref (M 6), .int 0, .int 0, .ref (M 7), .ref (M 8), .int 0, .ref (M 9), .ref (M 10), .ref (M 11), .long 0, .ref (M 12), .ref (M 13), .ref (M 14), .ref (M 15), .ref (M 16), .ref (M 17), .ref (M 18), .ref (M 19), .int 0, .int 0, .ref (M 20), .ref (M 21), .int 0]))) H locs := h
  rw [hu_id km0] at h
  refine lv_iconst (v := 0) hx hb dX11_image_5 (by decide) ?_
  refine lv_istore_n (lv' := [(1, .int 0), (0, .ref (M 0))]) hx hb dX11_image_6 rfl hl (by decide) rfl (fun ls hl => ?_)
  refine lv_iload_n hx hb dX11_image_7 rfl (lv_at hl 0 rfl) ?_
  refine lv_bipush (v := 81) hx hb dX11_image_8 (by decide) ?_
  refine lv_icmp_ge (tgt := 31) hx hb dX11_image_10 (by decide) (fun c_506 => ?_) (fun c_506 => ?_)
  · exact absurd c_506 (by decide)
  · refine lv_aload_n hx hb dX11_image_13 rfl (lv_at hl 1 rfl) ?_
    refine q_get C h km0 fl_X11_20 (v := .ref (M 4)) rfl dX11_image_14 ?_
    refine lv_iload_n hx hb dX11_image_17 rfl (lv_at hl 0 rfl) ?_
    refine lv_aload_n hx hb dX11_image_18 rfl (lv_at hl 1 rfl) ?_
    refine q_get C h km0 fl_X11_17 (v := .ref (M 3)) rfl dX11_image_19 ?_
    refine lv_iload_n hx hb dX11_image_22 rfl (lv_at hl 0 rfl) ?_
    refine q_iald C h km3 (by unfold vp_in; decide) dX11_image_23 ?_
    refine lv_topi (fun x_ e_ => ?_)
    obtain rfl : 0 = x_ := e_.symm
    refine q_iast C h km4 (by unfold vp_in; decide) dX11_image_24 (fun H locs h => ?_)
    rw [upd0] at h
    rw [hu_id km4] at h
    refine lv_iinc (v := 1) (lv' := [(1, .int 1), (0, .ref (M 0))]) hx hb dX11_image_25 hl (k := 0) rfl (by decide) (by decide) rfl (fun ls hl => ?_)
    refine lv_goto (tgt := 7) hx hb dX11_image_28 (by decide) ?_
    refine lv_iload_n hx hb dX11_image_7 rfl (lv_at hl 0 rfl) ?_
    refine lv_bipush (v := 81) hx hb dX11_image_8 (by decide) ?_
    refine lv_icmp_ge (tgt := 31) hx hb dX11_image_10 (by decide) (fun c_508 => ?_) (fun c_508 => ?_)
    · exact absurd c_508 (by decide)
    · refine lv_aload_n hx hb dX11_image_13 rfl (lv_at hl 1 rfl) ?_
      refine q_get C h km0 fl_X11_20 (v := .ref (M 4)) rfl dX11_image_14 ?_
      refine lv_iload_n hx hb dX11_image_17 rfl (lv_at hl 0 rfl) ?_
      refine lv_aload_n hx hb dX11_image_18 rfl (lv_at hl 1 rfl) ?_
      refine q_get C h km0 fl_X11_17 (v := .ref (M 3)) rfl dX11_image_19 ?_
      refine lv_iload_n hx hb dX11_image_22 rfl (lv_at hl 0 rfl) ?_
      refine q_iald C h km3 (by unfold vp_in; decide) dX11_image_23 ?_
      refine lv_topi (fun x_ e_ => ?_)
      obtain rfl : 0 = x_ := e_.symm
      refine q_iast C h km4 (by unfold vp_in; decide) dX11_image_24 (fun H locs h => ?_)
      rw [upd0] at h
      rw [hu_id km4] at h
      refine lv_iinc (v := 2) (lv' := [(1, .int 2), (0, .ref (M 0))]) hx hb dX11_image_25 hl (k := 0) rfl (by decide) (by decide) rfl (fun ls hl => ?_)
      refine lv_goto (tgt := 7) hx hb dX11_image_28 (by decide) ?_
      refine lv_iload_n hx hb dX11_image_7 rfl (lv_at hl 0 rfl) ?_
      refine lv_bipush (v := 81) hx hb dX11_image_8 (by decide) ?_
      refine lv_icmp_ge (tgt := 31) hx hb dX11_image_10 (by decide) (fun c_510 => ?_) (fun c_510 => ?_)
      · exact absurd c_510 (by decide)
      · refine lv_aload_n hx hb dX11_image_13 rfl (lv_at hl 1 rfl) ?_
        refine q_get C h km0 fl_X11_20 (v := .ref (M 4)) rfl dX11_image_14 ?_
        refine lv_iload_n hx hb dX11_image_17 rfl (lv_at hl 0 rfl) ?_
        refine lv_aload_n hx hb dX11_image_18 rfl (lv_at hl 1 rfl) ?_
        refine q_get C h km0 fl_X11_17 (v := .ref (M 3)) rfl dX11_image_19 ?_
        refine lv_iload_n hx hb dX11_image_22 rfl (lv_at hl 0 rfl) ?_
        refine q_iald C h km3 (by unfold vp_in; decide) dX11_image_23 ?_
        refine lv_topi (fun x_ e_ => ?_)
        obtain rfl : 0 = x_ := e_.symm
        refine q_iast C h km4 (by unfold vp_in; decide) dX11_image_24 (fun H locs h => ?_)
        rw [upd0] at h
        rw [hu_id km4] at h
        refine lv_iinc (v := 3) (lv' := [(1, .int 3), (0, .ref (M 0))]) hx hb dX11_image_25 hl (k := 0) rfl (by decide) (by decide) rfl (fun ls hl => ?_)
        refine lv_goto (tgt := 7) hx hb dX11_image_28 (by decide) ?_
        refine lv_iload_n hx hb dX11_image_7 rfl (lv_at hl 0 rfl) ?_
        refine lv_bipush (v := 81) hx hb dX11_image_8 (by decide) ?_
        refine lv_icmp_ge (tgt := 31) hx hb dX11_image_10 (by decide) (fun c_512 => ?_) (fun c_512 => ?_)
        · exact absurd c_512 (by decide)
        · refine lv_aload_n hx hb dX11_image_13 rfl (lv_at hl 1 rfl) ?_
          refine q_get C h km0 fl_X11_20 (v := .ref (M 4)) rfl dX11_image_14 ?_
          refine lv_iload_n hx hb dX11_image_17 rfl (lv_at hl 0 rfl) ?_
          refine lv_aload_n hx hb dX11_image_18 rfl (lv_at hl 1 rfl) ?_
          refine q_get C h km0 fl_X11_17 (v := .ref (M 3)) rfl dX11_image_19 ?_
          refine lv_iload_n hx hb dX11_image_22 rfl (lv_at hl 0 rfl) ?_
          refine q_iald C h km3 (by unfold vp_in; decide) dX11_image_23 ?_
          refine lv_topi (fun x_ e_ => ?_)
          obtain rfl : 0 = x_ := e_.symm
          refine q_iast C h km4 (by unfold vp_in; decide) dX11_image_24 (fun H locs h => ?_)
          rw [upd0] at h
          rw [hu_id km4] at h
          refine lv_iinc (v := 4) (lv' := [(1, .int 4), (0, .ref (M 0))]) hx hb dX11_image_25 hl (k := 0) rfl (by decide) (by decide) rfl (fun ls hl => ?_)
          refine lv_goto (tgt := 7) hx hb dX11_image_28 (by decide) ?_
          refine lv_iload_n hx hb dX11_image_7 rfl (lv_at hl 0 rfl) ?_
          refine lv_bipush (v := 81) hx hb dX11_image_8 (by decide) ?_
          refine lv_icmp_ge (tgt := 31) hx hb dX11_image_10 (by decide) (fun c_514 => ?_) (fun c_514 => ?_)
          · exact absurd c_514 (by decide)
          · refine lv_aload_n hx hb dX11_image_13 rfl (lv_at hl 1 rfl) ?_
            refine q_get C h km0 fl_X11_20 (v := .ref (M 4)) rfl dX11_image_14 ?_
            refine lv_iload_n hx hb dX11_image_17 rfl (lv_at hl 0 rfl) ?_
            refine lv_aload_n hx hb dX11_image_18 rfl (lv_at hl 1 rfl) ?_
            refine q_get C h km0 fl_X11_17 (v := .ref (M 3)) rfl dX11_image_19 ?_
            refine lv_iload_n hx hb dX11_image_22 rfl (lv_at hl 0 rfl) ?_
            refine q_iald C h km3 (by unfold vp_in; decide) dX11_image_23 ?_
            refine lv_topi (fun x_ e_ => ?_)
            obtain rfl : 0 = x_ := e_.symm
            refine q_iast C h km4 (by unfold vp_in; decide) dX11_image_24 (fun H locs h => ?_)
            rw [upd0] at h
            rw [hu_id km4] at h
            refine lv_iinc (v := 5) (lv' := [(1, .int 5), (0, .ref (M 0))]) hx hb dX11_image_25 hl (k := 0) rfl (by decide) (by decide) rfl (fun ls hl => ?_)
            refine lv_goto (tgt := 7) hx hb dX11_image_28 (by decide) ?_
            refine lv_iload_n hx hb dX11_image_7 rfl (lv_at hl 0 rfl) ?_
            refine lv_bipush (v := 81) hx hb dX11_image_8 (by decide) ?_
            refine lv_icmp_ge (tgt := 31) hx hb dX11_image_10 (by decide) (fun c_516 => ?_) (fun c_516 => ?_)
            · exact absurd c_516 (by decide)
            · refine lv_aload_n hx hb dX11_image_13 rfl (lv_at hl 1 rfl) ?_
              refine q_get C h km0 fl_X11_20 (v := .ref (M 4)) rfl dX11_image_14 ?_
              refine lv_iload_n hx hb dX11_image_17 rfl (lv_at hl 0 rfl) ?_
              refine lv_aload_n hx hb dX11_image_18 rfl (lv_at hl 1 rfl) ?_
              refine q_get C h km0 fl_X11_17 (v := .ref (M 3)) rfl dX11_image_19 ?_
              refine lv_iload_n hx hb dX11_image_22 rfl (lv_at hl 0 rfl) ?_
              refine q_iald C h km3 (by unfold vp_in; decide) dX11_image_23 ?_
              refine lv_topi (fun x_ e_ => ?_)
              obtain rfl : 0 = x_ := e_.symm
              refine q_iast C h km4 (by unfold vp_in; decide) dX11_image_24 (fun H locs h => ?_)
              rw [upd0] at h
              rw [hu_id km4] at h
              refine lv_iinc (v := 6) (lv' := [(1, .int 6), (0, .ref (M 0))]) hx hb dX11_image_25 hl (k := 0) rfl (by decide) (by decide) rfl (fun ls hl => ?_)
              refine lv_goto (tgt := 7) hx hb dX11_image_28 (by decide) ?_
              refine lv_iload_n hx hb dX11_image_7 rfl (lv_at hl 0 rfl) ?_
              refine lv_bipush (v := 81) hx hb dX11_image_8 (by decide) ?_
              refine lv_icmp_ge (tgt := 31) hx hb dX11_image_10 (by decide) (fun c_518 => ?_) (fun c_518 => ?_)
              · exact absurd c_518 (by decide)
              · refine lv_aload_n hx hb dX11_image_13 rfl (lv_at hl 1 rfl) ?_
                refine q_get C h km0 fl_X11_20 (v := .ref (M 4)) rfl dX11_image_14 ?_
                refine lv_iload_n hx hb dX11_image_17 rfl (lv_at hl 0 rfl) ?_
                refine lv_aload_n hx hb dX11_image_18 rfl (lv_at hl 1 rfl) ?_
                refine q_get C h km0 fl_X11_17 (v := .ref (M 3)) rfl dX11_image_19 ?_
                refine lv_iload_n hx hb dX11_image_22 rfl (lv_at hl 0 rfl) ?_
                refine q_iald C h km3 (by unfold vp_in; decide) dX11_image_23 ?_
                refine lv_topi (fun x_ e_ => ?_)
                obtain rfl : 0 = x_ := e_.symm
                refine q_iast C h km4 (by unfold vp_in; decide) dX11_image_24 (fun H locs h => ?_)
                rw [upd0] at h
                rw [hu_id km4] at h
                refine lv_iinc (v := 7) (lv' := [(1, .int 7), (0, .ref (M 0))]) hx hb dX11_image_25 hl (k := 0) rfl (by decide) (by decide) rfl (fun ls hl => ?_)
                refine lv_goto (tgt := 7) hx hb dX11_image_28 (by decide) ?_
                refine lv_iload_n hx hb dX11_image_7 rfl (lv_at hl 0 rfl) ?_
                refine lv_bipush (v := 81) hx hb dX11_image_8 (by decide) ?_
                refine lv_icmp_ge (tgt := 31) hx hb dX11_image_10 (by decide) (fun c_520 => ?_) (fun c_520 => ?_)
                · exact absurd c_520 (by decide)
                · refine lv_aload_n hx hb dX11_image_13 rfl (lv_at hl 1 rfl) ?_
                  refine q_get C h km0 fl_X11_20 (v := .ref (M 4)) rfl dX11_image_14 ?_
                  refine lv_iload_n hx hb dX11_image_17 rfl (lv_at hl 0 rfl) ?_
                  refine lv_aload_n hx hb dX11_image_18 rfl (lv_at hl 1 rfl) ?_
                  refine q_get C h km0 fl_X11_17 (v := .ref (M 3)) rfl dX11_image_19 ?_
                  refine lv_iload_n hx hb dX11_image_22 rfl (lv_at hl 0 rfl) ?_
                  refine q_iald C h km3 (by unfold vp_in; decide) dX11_image_23 ?_
                  refine lv_topi (fun x_ e_ => ?_)
                  obtain rfl : 0 = x_ := e_.symm
                  refine q_iast C h km4 (by unfold vp_in; decide) dX11_image_24 (fun H locs h => ?_)
                  rw [upd0] at h
                  rw [hu_id km4] at h
                  refine lv_iinc (v := 8) (lv' := [(1, .int 8), (0, .ref (M 0))]) hx hb dX11_image_25 hl (k := 0) rfl (by decide) (by decide) rfl (fun ls hl => ?_)
                  refine lv_goto (tgt := 7) hx hb dX11_image_28 (by decide) ?_
                  refine lv_iload_n hx hb dX11_image_7 rfl (lv_at hl 0 rfl) ?_
                  refine lv_bipush (v := 81) hx hb dX11_image_8 (by decide) ?_
                  refine lv_icmp_ge (tgt := 31) hx hb dX11_image_10 (by decide) (fun c_522 => ?_) (fun c_522 => ?_)
                  · exact absurd c_522 (by decide)
                  · refine lv_aload_n hx hb dX11_image_13 rfl (lv_at hl 1 rfl) ?_
                    refine q_get C h km0 fl_X11_20 (v := .ref (M 4)) rfl dX11_image_14 ?_
                    refine lv_iload_n hx hb dX11_image_17 rfl (lv_at hl 0 rfl) ?_
                    refine lv_aload_n hx hb dX11_image_18 rfl (lv_at hl 1 rfl) ?_
                    refine q_get C h km0 fl_X11_17 (v := .ref (M 3)) rfl dX11_image_19 ?_
                    refine lv_iload_n hx hb dX11_image_22 rfl (lv_at hl 0 rfl) ?_
                    refine q_iald C h km3 (by unfold vp_in; decide) dX11_image_23 ?_
                    refine lv_topi (fun x_ e_ => ?_)
                    obtain rfl : 0 = x_ := e_.symm
                    refine q_iast C h km4 (by unfold vp_in; decide) dX11_image_24 (fun H locs h => ?_)
                    rw [upd0] at h
                    rw [hu_id km4] at h
                    refine lv_iinc (v := 9) (lv' := [(1, .int 9), (0, .ref (M 0))]) hx hb dX11_image_25 hl (k := 0) rfl (by decide) (by decide) rfl (fun ls hl => ?_)
                    refine lv_goto (tgt := 7) hx hb dX11_image_28 (by decide) ?_
                    refine lv_iload_n hx hb dX11_image_7 rfl (lv_at hl 0 rfl) ?_
                    refine lv_bipush (v := 81) hx hb dX11_image_8 (by decide) ?_
                    refine lv_icmp_ge (tgt := 31) hx hb dX11_image_10 (by decide) (fun c_524 => ?_) (fun c_524 => ?_)
                    · exact absurd c_524 (by decide)
                    · refine lv_aload_n hx hb dX11_image_13 rfl (lv_at hl 1 rfl) ?_
                      refine q_get C h km0 fl_X11_20 (v := .ref (M 4)) rfl dX11_image_14 ?_
                      refine lv_iload_n hx hb dX11_image_17 rfl (lv_at hl 0 rfl) ?_
                      refine lv_aload_n hx hb dX11_image_18 rfl (lv_at hl 1 rfl) ?_
                      refine q_get C h km0 fl_X11_17 (v := .ref (M 3)) rfl dX11_image_19 ?_
                      refine lv_iload_n hx hb dX11_image_22 rfl (lv_at hl 0 rfl) ?_
                      refine q_iald C h km3 (by unfold vp_in; decide) dX11_image_23 ?_
                      refine lv_topi (fun x_ e_ => ?_)
                      obtain rfl : 0 = x_ := e_.symm
                      refine q_iast C h km4 (by unfold vp_in; decide) dX11_image_24 (fun H locs h => ?_)
                      rw [upd0] at h
                      rw [hu_id km4] at h
                      refine lv_iinc (v := 10) (lv' := [(1, .int 10), (0, .ref (M 0))]) hx hb dX11_image_25 hl (k := 0) rfl (by decide) (by decide) rfl (fun ls hl => ?_)
                      refine lv_goto (tgt := 7) hx hb dX11_image_28 (by decide) ?_
                      refine lv_iload_n hx hb dX11_image_7 rfl (lv_at hl 0 rfl) ?_
                      refine lv_bipush (v := 81) hx hb dX11_image_8 (by decide) ?_
                      refine lv_icmp_ge (tgt := 31) hx hb dX11_image_10 (by decide) (fun c_526 => ?_) (fun c_526 => ?_)
                      · exact absurd c_526 (by decide)
                      · refine lv_aload_n hx hb dX11_image_13 rfl (lv_at hl 1 rfl) ?_
                        refine q_get C h km0 fl_X11_20 (v := .ref (M 4)) rfl dX11_image_14 ?_
                        refine lv_iload_n hx hb dX11_image_17 rfl (lv_at hl 0 rfl) ?_
                        refine lv_aload_n hx hb dX11_image_18 rfl (lv_at hl 1 rfl) ?_
                        refine q_get C h km0 fl_X11_17 (v := .ref (M 3)) rfl dX11_image_19 ?_
                        refine lv_iload_n hx hb dX11_image_22 rfl (lv_at hl 0 rfl) ?_
                        refine q_iald C h km3 (by unfold vp_in; decide) dX11_image_23 ?_
                        refine lv_topi (fun x_ e_ => ?_)
                        obtain rfl : 0 = x_ := e_.symm
                        refine q_iast C h km4 (by unfold vp_in; decide) dX11_image_24 (fun H locs h => ?_)
                        rw [upd0] at h
                        rw [hu_id km4] at h
                        refine lv_iinc (v := 11) (lv' := [(1, .int 11), (0, .ref (M 0))]) hx hb dX11_image_25 hl (k := 0) rfl (by decide) (by decide) rfl (fun ls hl => ?_)
                        refine lv_goto (tgt := 7) hx hb dX11_image_28 (by decide) ?_
                        refine lv_iload_n hx hb dX11_image_7 rfl (lv_at hl 0 rfl) ?_
                        refine lv_bipush (v := 81) hx hb dX11_image_8 (by decide) ?_
                        refine lv_icmp_ge (tgt := 31) hx hb dX11_image_10 (by decide) (fun c_528 => ?_) (fun c_528 => ?_)
                        · exact absurd c_528 (by decide)
                        · refine lv_aload_n hx hb dX11_image_13 rfl (lv_at hl 1 rfl) ?_
                          refine q_get C h km0 fl_X11_20 (v := .ref (M 4)) rfl dX11_image_14 ?_
                          refine lv_iload_n hx hb dX11_image_17 rfl (lv_at hl 0 rfl) ?_
                          refine lv_aload_n hx hb dX11_image_18 rfl (lv_at hl 1 rfl) ?_
                          refine q_get C h km0 fl_X11_17 (v := .ref (M 3)) rfl dX11_image_19 ?_
                          refine lv_iload_n hx hb dX11_image_22 rfl (lv_at hl 0 rfl) ?_
                          refine q_iald C h km3 (by unfold vp_in; decide) dX11_image_23 ?_
                          refine lv_topi (fun x_ e_ => ?_)
                          obtain rfl : 0 = x_ := e_.symm
                          refine q_iast C h km4 (by unfold vp_in; decide) dX11_image_24 (fun H locs h => ?_)
                          rw [upd0] at h
                          rw [hu_id km4] at h
                          refine lv_iinc (v := 12) (lv' := [(1, .int 12), (0, .ref (M 0))]) hx hb dX11_image_25 hl (k := 0) rfl (by decide) (by decide) rfl (fun ls hl => ?_)
                          refine lv_goto (tgt := 7) hx hb dX11_image_28 (by decide) ?_
                          refine lv_iload_n hx hb dX11_image_7 rfl (lv_at hl 0 rfl) ?_
                          refine lv_bipush (v := 81) hx hb dX11_image_8 (by decide) ?_
                          refine lv_icmp_ge (tgt := 31) hx hb dX11_image_10 (by decide) (fun c_530 => ?_) (fun c_530 => ?_)
                          · exact absurd c_530 (by decide)
                          · refine lv_aload_n hx hb dX11_image_13 rfl (lv_at hl 1 rfl) ?_
                            refine q_get C h km0 fl_X11_20 (v := .ref (M 4)) rfl dX11_image_14 ?_
                            refine lv_iload_n hx hb dX11_image_17 rfl (lv_at hl 0 rfl) ?_
                            refine lv_aload_n hx hb dX11_image_18 rfl (lv_at hl 1 rfl) ?_
                            refine q_get C h km0 fl_X11_17 (v := .ref (M 3)) rfl dX11_image_19 ?_
                            refine lv_iload_n hx hb dX11_image_22 rfl (lv_at hl 0 rfl) ?_
                            refine q_iald C h km3 (by unfold vp_in; decide) dX11_image_23 ?_
                            refine lv_topi (fun x_ e_ => ?_)
                            obtain rfl : 0 = x_ := e_.symm
                            refine q_iast C h km4 (by unfold vp_in; decide) dX11_image_24 (fun H locs h => ?_)
                            rw [upd0] at h
                            rw [hu_id km4] at h
                            refine lv_iinc (v := 13) (lv' := [(1, .int 13), (0, .ref (M 0))]) hx hb dX11_image_25 hl (k := 0) rfl (by decide) (by decide) rfl (fun ls hl => ?_)
                            refine lv_goto (tgt := 7) hx hb dX11_image_28 (by decide) ?_
                            refine lv_iload_n hx hb dX11_image_7 rfl (lv_at hl 0 rfl) ?_
                            refine lv_bipush (v := 81) hx hb dX11_image_8 (by decide) ?_
                            refine lv_icmp_ge (tgt := 31) hx hb dX11_image_10 (by decide) (fun c_532 => ?_) (fun c_532 => ?_)
                            · exact absurd c_532 (by decide)
                            · refine lv_aload_n hx hb dX11_image_13 rfl (lv_at hl 1 rfl) ?_
                              refine q_get C h km0 fl_X11_20 (v := .ref (M 4)) rfl dX11_image_14 ?_
                              refine lv_iload_n hx hb dX11_image_17 rfl (lv_at hl 0 rfl) ?_
                              refine lv_aload_n hx hb dX11_image_18 rfl (lv_at hl 1 rfl) ?_
                              refine q_get C h km0 fl_X11_17 (v := .ref (M 3)) rfl dX11_image_19 ?_
                              refine lv_iload_n hx hb dX11_image_22 rfl (lv_at hl 0 rfl) ?_
                              refine q_iald C h km3 (by unfold vp_in; decide) dX11_image_23 ?_
                              refine lv_topi (fun x_ e_ => ?_)
                              obtain rfl : 0 = x_ := e_.symm
                              refine q_iast C h km4 (by unfold vp_in; decide) dX11_image_24 (fun H locs h => ?_)
                              rw [upd0] at h
                              rw [hu_id km4] at h
                              refine lv_iinc (v := 14) (lv' := [(1, .int 14), (0, .ref (M 0))]) hx hb dX11_image_25 hl (k := 0) rfl (by decide) (by decide) rfl (fun ls hl => ?_)
                              refine lv_goto (tgt := 7) hx hb dX11_image_28 (by decide) ?_
                              refine lv_iload_n hx hb dX11_image_7 rfl (lv_at hl 0 rfl) ?_
                              refine lv_bipush (v := 81) hx hb dX11_image_8 (by decide) ?_
                              refine lv_icmp_ge (tgt := 31) hx hb dX11_image_10 (by decide) (fun c_534 => ?_) (fun c_534 => ?_)
                              · exact absurd c_534 (by decide)
                              · refine lv_aload_n hx hb dX11_image_13 rfl (lv_at hl 1 rfl) ?_
                                refine q_get C h km0 fl_X11_20 (v := .ref (M 4)) rfl dX11_image_14 ?_
                                refine lv_iload_n hx hb dX11_image_17 rfl (lv_at hl 0 rfl) ?_
                                refine lv_aload_n hx hb dX11_image_18 rfl (lv_at hl 1 rfl) ?_
                                refine q_get C h km0 fl_X11_17 (v := .ref (M 3)) rfl dX11_image_19 ?_
                                refine lv_iload_n hx hb dX11_image_22 rfl (lv_at hl 0 rfl) ?_
                                refine q_iald C h km3 (by unfold vp_in; decide) dX11_image_23 ?_
                                refine lv_topi (fun x_ e_ => ?_)
                                obtain rfl : 0 = x_ := e_.symm
                                refine q_iast C h km4 (by unfold vp_in; decide) dX11_image_24 (fun H locs h => ?_)
                                rw [upd0] at h
                                rw [hu_id km4] at h
                                refine lv_iinc (v := 15) (lv' := [(1, .int 15), (0, .ref (M 0))]) hx hb dX11_image_25 hl (k := 0) rfl (by decide) (by decide) rfl (fun ls hl => ?_)
                                refine lv_goto (tgt := 7) hx hb dX11_image_28 (by decide) ?_
                                refine lv_iload_n hx hb dX11_image_7 rfl (lv_at hl 0 rfl) ?_
                                refine lv_bipush (v := 81) hx hb dX11_image_8 (by decide) ?_
                                refine lv_icmp_ge (tgt := 31) hx hb dX11_image_10 (by decide) (fun c_536 => ?_) (fun c_536 => ?_)
                                · exact absurd c_536 (by decide)
                                · refine lv_aload_n hx hb dX11_image_13 rfl (lv_at hl 1 rfl) ?_
                                  refine q_get C h km0 fl_X11_20 (v := .ref (M 4)) rfl dX11_image_14 ?_
                                  refine lv_iload_n hx hb dX11_image_17 rfl (lv_at hl 0 rfl) ?_
                                  refine lv_aload_n hx hb dX11_image_18 rfl (lv_at hl 1 rfl) ?_
                                  refine q_get C h km0 fl_X11_17 (v := .ref (M 3)) rfl dX11_image_19 ?_
                                  refine lv_iload_n hx hb dX11_image_22 rfl (lv_at hl 0 rfl) ?_
                                  refine q_iald C h km3 (by unfold vp_in; decide) dX11_image_23 ?_
                                  refine lv_topi (fun x_ e_ => ?_)
                                  obtain rfl : 0 = x_ := e_.symm
                                  refine q_iast C h km4 (by unfold vp_in; decide) dX11_image_24 (fun H locs h => ?_)
                                  rw [upd0] at h
                                  rw [hu_id km4] at h
                                  refine lv_iinc (v := 16) (lv' := [(1, .int 16), (0, .ref (M 0))]) hx hb dX11_image_25 hl (k := 0) rfl (by decide) (by decide) rfl (fun ls hl => ?_)
                                  refine lv_goto (tgt := 7) hx hb dX11_image_28 (by decide) ?_
                                  refine lv_iload_n hx hb dX11_image_7 rfl (lv_at hl 0 rfl) ?_
                                  refine lv_bipush (v := 81) hx hb dX11_image_8 (by decide) ?_
                                  refine lv_icmp_ge (tgt := 31) hx hb dX11_image_10 (by decide) (fun c_538 => ?_) (fun c_538 => ?_)
                                  · exact absurd c_538 (by decide)
                                  · refine lv_aload_n hx hb dX11_image_13 rfl (lv_at hl 1 rfl) ?_
                                    refine q_get C h km0 fl_X11_20 (v := .ref (M 4)) rfl dX11_image_14 ?_
                                    refine lv_iload_n hx hb dX11_image_17 rfl (lv_at hl 0 rfl) ?_
                                    refine lv_aload_n hx hb dX11_image_18 rfl (lv_at hl 1 rfl) ?_
                                    refine q_get C h km0 fl_X11_17 (v := .ref (M 3)) rfl dX11_image_19 ?_
                                    refine lv_iload_n hx hb dX11_image_22 rfl (lv_at hl 0 rfl) ?_
                                    refine q_iald C h km3 (by unfold vp_in; decide) dX11_image_23 ?_
                                    refine lv_topi (fun x_ e_ => ?_)
                                    obtain rfl : 0 = x_ := e_.symm
                                    refine q_iast C h km4 (by unfold vp_in; decide) dX11_image_24 (fun H locs h => ?_)
                                    rw [upd0] at h
                                    rw [hu_id km4] at h
                                    refine lv_iinc (v := 17) (lv' := [(1, .int 17), (0, .ref (M 0))]) hx hb dX11_image_25 hl (k := 0) rfl (by decide) (by decide) rfl (fun ls hl => ?_)
                                    refine lv_goto (tgt := 7) hx hb dX11_image_28 (by decide) ?_
                                    refine lv_iload_n hx hb dX11_image_7 rfl (lv_at hl 0 rfl) ?_
                                    refine lv_bipush (v := 81) hx hb dX11_image_8 (by decide) ?_
                                    refine lv_icmp_ge (tgt := 31) hx hb dX11_image_10 (by decide) (fun c_540 => ?_) (fun c_540 => ?_)
                                    · exact absurd c_540 (by decide)
                                    · refine lv_aload_n hx hb dX11_image_13 rfl (lv_at hl 1 rfl) ?_
                                      refine q_get C h km0 fl_X11_20 (v := .ref (M 4)) rfl dX11_image_14 ?_
                                      refine lv_iload_n hx hb dX11_image_17 rfl (lv_at hl 0 rfl) ?_
                                      refine lv_aload_n hx hb dX11_image_18 rfl (lv_at hl 1 rfl) ?_
                                      refine q_get C h km0 fl_X11_17 (v := .ref (M 3)) rfl dX11_image_19 ?_
                                      refine lv_iload_n hx hb dX11_image_22 rfl (lv_at hl 0 rfl) ?_
                                      refine q_iald C h km3 (by unfold vp_in; decide) dX11_image_23 ?_
                                      refine lv_topi (fun x_ e_ => ?_)
                                      obtain rfl : 0 = x_ := e_.symm
                                      refine q_iast C h km4 (by unfold vp_in; decide) dX11_image_24 (fun H locs h => ?_)
                                      rw [upd0] at h
                                      rw [hu_id km4] at h
                                      refine lv_iinc (v := 18) (lv' := [(1, .int 18), (0, .ref (M 0))]) hx hb dX11_image_25 hl (k := 0) rfl (by decide) (by decide) rfl (fun ls hl => ?_)
                                      refine lv_goto (tgt := 7) hx hb dX11_image_28 (by decide) ?_
                                      refine lv_iload_n hx hb dX11_image_7 rfl (lv_at hl 0 rfl) ?_
                                      refine lv_bipush (v := 81) hx hb dX11_image_8 (by decide) ?_
                                      refine lv_icmp_ge (tgt := 31) hx hb dX11_image_10 (by decide) (fun c_542 => ?_) (fun c_542 => ?_)
                                      · exact absurd c_542 (by decide)
                                      · refine lv_aload_n hx hb dX11_image_13 rfl (lv_at hl 1 rfl) ?_
                                        refine q_get C h km0 fl_X11_20 (v := .ref (M 4)) rfl dX11_image_14 ?_
                                        refine lv_iload_n hx hb dX11_image_17 rfl (lv_at hl 0 rfl) ?_
                                        refine lv_aload_n hx hb dX11_image_18 rfl (lv_at hl 1 rfl) ?_
                                        refine q_get C h km0 fl_X11_17 (v := .ref (M 3)) rfl dX11_image_19 ?_
                                        refine lv_iload_n hx hb dX11_image_22 rfl (lv_at hl 0 rfl) ?_
                                        refine q_iald C h km3 (by unfold vp_in; decide) dX11_image_23 ?_
                                        refine lv_topi (fun x_ e_ => ?_)
                                        obtain rfl : 0 = x_ := e_.symm
                                        refine q_iast C h km4 (by unfold vp_in; decide) dX11_image_24 (fun H locs h => ?_)
                                        rw [upd0] at h
                                        rw [hu_id km4] at h
                                        refine lv_iinc (v := 19) (lv' := [(1, .int 19), (0, .ref (M 0))]) hx hb dX11_image_25 hl (k := 0) rfl (by decide) (by decide) rfl (fun ls hl => ?_)
                                        refine lv_goto (tgt := 7) hx hb dX11_image_28 (by decide) ?_
                                        refine lv_iload_n hx hb dX11_image_7 rfl (lv_at hl 0 rfl) ?_
                                        refine lv_bipush (v := 81) hx hb dX11_image_8 (by decide) ?_
                                        refine lv_icmp_ge (tgt := 31) hx hb dX11_image_10 (by decide) (fun c_544 => ?_) (fun c_544 => ?_)
                                        · exact absurd c_544 (by decide)
                                        · refine lv_aload_n hx hb dX11_image_13 rfl (lv_at hl 1 rfl) ?_
                                          refine q_get C h km0 fl_X11_20 (v := .ref (M 4)) rfl dX11_image_14 ?_
                                          refine lv_iload_n hx hb dX11_image_17 rfl (lv_at hl 0 rfl) ?_
                                          refine lv_aload_n hx hb dX11_image_18 rfl (lv_at hl 1 rfl) ?_
                                          refine q_get C h km0 fl_X11_17 (v := .ref (M 3)) rfl dX11_image_19 ?_
                                          refine lv_iload_n hx hb dX11_image_22 rfl (lv_at hl 0 rfl) ?_
                                          refine q_iald C h km3 (by unfold vp_in; decide) dX11_image_23 ?_
                                          refine lv_topi (fun x_ e_ => ?_)
                                          obtain rfl : 0 = x_ := e_.symm
                                          refine q_iast C h km4 (by unfold vp_in; decide) dX11_image_24 (fun H locs h => ?_)
                                          rw [upd0] at h
                                          rw [hu_id km4] at h
                                          refine lv_iinc (v := 20) (lv' := [(1, .int 20), (0, .ref (M 0))]) hx hb dX11_image_25 hl (k := 0) rfl (by decide) (by decide) rfl (fun ls hl => ?_)
                                          refine lv_goto (tgt := 7) hx hb dX11_image_28 (by decide) ?_
                                          refine lv_iload_n hx hb dX11_image_7 rfl (lv_at hl 0 rfl) ?_
                                          refine lv_bipush (v := 81) hx hb dX11_image_8 (by decide) ?_
                                          refine lv_icmp_ge (tgt := 31) hx hb dX11_image_10 (by decide) (fun c_546 => ?_) (fun c_546 => ?_)
                                          · exact absurd c_546 (by decide)
                                          · refine lv_aload_n hx hb dX11_image_13 rfl (lv_at hl 1 rfl) ?_
                                            refine q_get C h km0 fl_X11_20 (v := .ref (M 4)) rfl dX11_image_14 ?_
                                            refine lv_iload_n hx hb dX11_image_17 rfl (lv_at hl 0 rfl) ?_
                                            refine lv_aload_n hx hb dX11_image_18 rfl (lv_at hl 1 rfl) ?_
                                            refine q_get C h km0 fl_X11_17 (v := .ref (M 3)) rfl dX11_image_19 ?_
                                            refine lv_iload_n hx hb dX11_image_22 rfl (lv_at hl 0 rfl) ?_
                                            refine q_iald C h km3 (by unfold vp_in; decide) dX11_image_23 ?_
                                            refine lv_topi (fun x_ e_ => ?_)
                                            obtain rfl : 0 = x_ := e_.symm
                                            refine q_iast C h km4 (by unfold vp_in; decide) dX11_image_24 (fun H locs h => ?_)
                                            rw [upd0] at h
                                            rw [hu_id km4] at h
                                            refine lv_iinc (v := 21) (lv' := [(1, .int 21), (0, .ref (M 0))]) hx hb dX11_image_25 hl (k := 0) rfl (by decide) (by decide) rfl (fun ls hl => ?_)
                                            refine lv_goto (tgt := 7) hx hb dX11_image_28 (by decide) ?_
                                            refine lv_iload_n hx hb dX11_image_7 rfl (lv_at hl 0 rfl) ?_
                                            refine lv_bipush (v := 81) hx hb dX11_image_8 (by decide) ?_
                                            refine lv_icmp_ge (tgt := 31) hx hb dX11_image_10 (by decide) (fun c_548 => ?_) (fun c_548 => ?_)
                                            · exact absurd c_548 (by decide)
                                            · refine lv_aload_n hx hb dX11_image_13 rfl (lv_at hl 1 rfl) ?_
                                              refine q_get C h km0 fl_X11_20 (v := .ref (M 4)) rfl dX11_image_14 ?_
                                              refine lv_iload_n hx hb dX11_image_17 rfl (lv_at hl 0 rfl) ?_
                                              refine lv_aload_n hx hb dX11_image_18 rfl (lv_at hl 1 rfl) ?_
                                              refine q_get C h km0 fl_X11_17 (v := .ref (M 3)) rfl dX11_image_19 ?_
                                              refine lv_iload_n hx hb dX11_image_22 rfl (lv_at hl 0 rfl) ?_
                                              refine q_iald C h km3 (by unfold vp_in; decide) dX11_image_23 ?_
                                              refine lv_topi (fun x_ e_ => ?_)
                                              obtain rfl : 0 = x_ := e_.symm
                                              refine q_iast C h km4 (by unfold vp_in; decide) dX11_image_24 (fun H locs h => ?_)
                                              rw [upd0] at h
                                              rw [hu_id km4] at h
                                              refine lv_iinc (v := 22) (lv' := [(1, .int 22), (0, .ref (M 0))]) hx hb dX11_image_25 hl (k := 0) rfl (by decide) (by decide) rfl (fun ls hl => ?_)
                                              refine lv_goto (tgt := 7) hx hb dX11_image_28 (by decide) ?_
                                              refine lv_iload_n hx hb dX11_image_7 rfl (lv_at hl 0 rfl) ?_
                                              refine lv_bipush (v := 81) hx hb dX11_image_8 (by decide) ?_
                                              refine lv_icmp_ge (tgt := 31) hx hb dX11_image_10 (by decide) (fun c_550 => ?_) (fun c_550 => ?_)
                                              · exact absurd c_550 (by decide)
                                              · refine lv_aload_n hx hb dX11_image_13 rfl (lv_at hl 1 rfl) ?_
                                                refine q_get C h km0 fl_X11_20 (v := .ref (M 4)) rfl dX11_image_14 ?_
                                                refine lv_iload_n hx hb dX11_image_17 rfl (lv_at hl 0 rfl) ?_
                                                refine lv_aload_n hx hb dX11_image_18 rfl (lv_at hl 1 rfl) ?_
                                                refine q_get C h km0 fl_X11_17 (v := .ref (M 3)) rfl dX11_image_19 ?_
                                                refine lv_iload_n hx hb dX11_image_22 rfl (lv_at hl 0 rfl) ?_
                                                refine q_iald C h km3 (by unfold vp_in; decide) dX11_image_23 ?_
                                                refine lv_topi (fun x_ e_ => ?_)
                                                obtain rfl : 0 = x_ := e_.symm
                                                refine q_iast C h km4 (by unfold vp_in; decide) dX11_image_24 (fun H locs h => ?_)
                                                rw [upd0] at h
                                                rw [hu_id km4] at h
                                                refine lv_iinc (v := 23) (lv' := [(1, .int 23), (0, .ref (M 0))]) hx hb dX11_image_25 hl (k := 0) rfl (by decide) (by decide) rfl (fun ls hl => ?_)
                                                refine lv_goto (tgt := 7) hx hb dX11_image_28 (by decide) ?_
                                                refine lv_iload_n hx hb dX11_image_7 rfl (lv_at hl 0 rfl) ?_
                                                refine lv_bipush (v := 81) hx hb dX11_image_8 (by decide) ?_
                                                refine lv_icmp_ge (tgt := 31) hx hb dX11_image_10 (by decide) (fun c_552 => ?_) (fun c_552 => ?_)
                                                · exact absurd c_552 (by decide)
                                                · refine lv_aload_n hx hb dX11_image_13 rfl (lv_at hl 1 rfl) ?_
                                                  refine q_get C h km0 fl_X11_20 (v := .ref (M 4)) rfl dX11_image_14 ?_
                                                  refine lv_iload_n hx hb dX11_image_17 rfl (lv_at hl 0 rfl) ?_
                                                  refine lv_aload_n hx hb dX11_image_18 rfl (lv_at hl 1 rfl) ?_
                                                  refine q_get C h km0 fl_X11_17 (v := .ref (M 3)) rfl dX11_image_19 ?_
                                                  refine lv_iload_n hx hb dX11_image_22 rfl (lv_at hl 0 rfl) ?_
                                                  refine q_iald C h km3 (by unfold vp_in; decide) dX11_image_23 ?_
                                                  refine lv_topi (fun x_ e_ => ?_)
                                                  obtain rfl : 0 = x_ := e_.symm
                                                  refine q_iast C h km4 (by unfold vp_in; decide) dX11_image_24 (fun H locs h => ?_)
                                                  rw [upd0] at h
                                                  rw [hu_id km4] at h
                                                  refine lv_iinc (v := 24) (lv' := [(1, .int 24), (0, .ref (M 0))]) hx hb dX11_image_25 hl (k := 0) rfl (by decide) (by decide) rfl (fun ls hl => ?_)
                                                  refine lv_goto (tgt := 7) hx hb dX11_image_28 (by decide) ?_
                                                  refine lv_iload_n hx hb dX11_image_7 rfl (lv_at hl 0 rfl) ?_
                                                  refine lv_bipush (v := 81) hx hb dX11_image_8 (by decide) ?_
                                                  refine lv_icmp_ge (tgt := 31) hx hb dX11_image_10 (by decide) (fun c_554 => ?_) (fun c_554 => ?_)
                                                  · exact absurd c_554 (by decide)
                                                  · refine lv_aload_n hx hb dX11_image_13 rfl (lv_at hl 1 rfl) ?_
                                                    refine q_get C h km0 fl_X11_20 (v := .ref (M 4)) rfl dX11_image_14 ?_
                                                    refine lv_iload_n hx hb dX11_image_17 rfl (lv_at hl 0 rfl) ?_
                                                    refine lv_aload_n hx hb dX11_image_18 rfl (lv_at hl 1 rfl) ?_
                                                    refine q_get C h km0 fl_X11_17 (v := .ref (M 3)) rfl dX11_image_19 ?_
                                                    refine lv_iload_n hx hb dX11_image_22 rfl (lv_at hl 0 rfl) ?_
                                                    refine q_iald C h km3 (by unfold vp_in; decide) dX11_image_23 ?_
                                                    refine lv_topi (fun x_ e_ => ?_)
                                                    obtain rfl : 0 = x_ := e_.symm
                                                    refine q_iast C h km4 (by unfold vp_in; decide) dX11_image_24 (fun H locs h => ?_)
                                                    rw [upd0] at h
                                                    rw [hu_id km4] at h
                                                    refine lv_iinc (v := 25) (lv' := [(1, .int 25), (0, .ref (M 0))]) hx hb dX11_image_25 hl (k := 0) rfl (by decide) (by decide) rfl (fun ls hl => ?_)
                                                    refine lv_goto (tgt := 7) hx hb dX11_image_28 (by decide) ?_
                                                    refine lv_iload_n hx hb dX11_image_7 rfl (lv_at hl 0 rfl) ?_
                                                    refine lv_bipush (v := 81) hx hb dX11_image_8 (by decide) ?_
                                                    refine lv_icmp_ge (tgt := 31) hx hb dX11_image_10 (by decide) (fun c_556 => ?_) (fun c_556 => ?_)
                                                    · exact absurd c_556 (by decide)
                                                    · refine lv_aload_n hx hb dX11_image_13 rfl (lv_at hl 1 rfl) ?_
                                                      refine q_get C h km0 fl_X11_20 (v := .ref (M 4)) rfl dX11_image_14 ?_
                                                      refine lv_iload_n hx hb dX11_image_17 rfl (lv_at hl 0 rfl) ?_
                                                      refine lv_aload_n hx hb dX11_image_18 rfl (lv_at hl 1 rfl) ?_
                                                      refine q_get C h km0 fl_X11_17 (v := .ref (M 3)) rfl dX11_image_19 ?_
                                                      refine lv_iload_n hx hb dX11_image_22 rfl (lv_at hl 0 rfl) ?_
                                                      refine q_iald C h km3 (by unfold vp_in; decide) dX11_image_23 ?_
                                                      refine lv_topi (fun x_ e_ => ?_)
                                                      obtain rfl : 0 = x_ := e_.symm
                                                      refine q_iast C h km4 (by unfold vp_in; decide) dX11_image_24 (fun H locs h => ?_)
                                                      rw [upd0] at h
                                                      rw [hu_id km4] at h
                                                      refine lv_iinc (v := 26) (lv' := [(1, .int 26), (0, .ref (M 0))]) hx hb dX11_image_25 hl (k := 0) rfl (by decide) (by decide) rfl (fun ls hl => ?_)
                                                      refine lv_goto (tgt := 7) hx hb dX11_image_28 (by decide) ?_
                                                      refine lv_iload_n hx hb dX11_image_7 rfl (lv_at hl 0 rfl) ?_
                                                      refine lv_bipush (v := 81) hx hb dX11_image_8 (by decide) ?_
                                                      refine lv_icmp_ge (tgt := 31) hx hb dX11_image_10 (by decide) (fun c_558 => ?_) (fun c_558 => ?_)
                                                      · exact absurd c_558 (by decide)
                                                      · refine lv_aload_n hx hb dX11_image_13 rfl (lv_at hl 1 rfl) ?_
                                                        refine q_get C h km0 fl_X11_20 (v := .ref (M 4)) rfl dX11_image_14 ?_
                                                        refine lv_iload_n hx hb dX11_image_17 rfl (lv_at hl 0 rfl) ?_
                                                        refine lv_aload_n hx hb dX11_image_18 rfl (lv_at hl 1 rfl) ?_
                                                        refine q_get C h km0 fl_X11_17 (v := .ref (M 3)) rfl dX11_image_19 ?_
                                                        refine lv_iload_n hx hb dX11_image_22 rfl (lv_at hl 0 rfl) ?_
                                                        refine q_iald C h km3 (by unfold vp_in; decide) dX11_image_23 ?_
                                                        refine lv_topi (fun x_ e_ => ?_)
                                                        obtain rfl : 0 = x_ := e_.symm
                                                        refine q_iast C h km4 (by unfold vp_in; decide) dX11_image_24 (fun H locs h => ?_)
                                                        rw [upd0] at h
                                                        rw [hu_id km4] at h
                                                        refine lv_iinc (v := 27) (lv' := [(1, .int 27), (0, .ref (M 0))]) hx hb dX11_image_25 hl (k := 0) rfl (by decide) (by decide) rfl (fun ls hl => ?_)
                                                        refine lv_goto (tgt := 7) hx hb dX11_image_28 (by decide) ?_
                                                        refine lv_iload_n hx hb dX11_image_7 rfl (lv_at hl 0 rfl) ?_
                                                        refine lv_bipush (v := 81) hx hb dX11_image_8 (by decide) ?_
                                                        refine lv_icmp_ge (tgt := 31) hx hb dX11_image_10 (by decide) (fun c_560 => ?_) (fun c_560 => ?_)
                                                        · exact absurd c_560 (by decide)
                                                        · refine lv_aload_n hx hb dX11_image_13 rfl (lv_at hl 1 rfl) ?_
                                                          refine q_get C h km0 fl_X11_20 (v := .ref (M 4)) rfl dX11_image_14 ?_
                                                          refine lv_iload_n hx hb dX11_image_17 rfl (lv_at hl 0 rfl) ?_
                                                          refine lv_aload_n hx hb dX11_image_18 rfl (lv_at hl 1 rfl) ?_
                                                          refine q_get C h km0 fl_X11_17 (v := .ref (M 3)) rfl dX11_image_19 ?_
                                                          refine lv_iload_n hx hb dX11_image_22 rfl (lv_at hl 0 rfl) ?_
                                                          refine q_iald C h km3 (by unfold vp_in; decide) dX11_image_23 ?_
                                                          refine lv_topi (fun x_ e_ => ?_)
                                                          obtain rfl : 0 = x_ := e_.symm
                                                          refine q_iast C h km4 (by unfold vp_in; decide) dX11_image_24 (fun H locs h => ?_)
                                                          rw [upd0] at h
                                                          rw [hu_id km4] at h
                                                          refine lv_iinc (v := 28) (lv' := [(1, .int 28), (0, .ref (M 0))]) hx hb dX11_image_25 hl (k := 0) rfl (by decide) (by decide) rfl (fun ls hl => ?_)
                                                          refine lv_goto (tgt := 7) hx hb dX11_image_28 (by decide) ?_
                                                          refine lv_iload_n hx hb dX11_image_7 rfl (lv_at hl 0 rfl) ?_
                                                          refine lv_bipush (v := 81) hx hb dX11_image_8 (by decide) ?_
                                                          refine lv_icmp_ge (tgt := 31) hx hb dX11_image_10 (by decide) (fun c_562 => ?_) (fun c_562 => ?_)
                                                          · exact absurd c_562 (by decide)
                                                          · refine lv_aload_n hx hb dX11_image_13 rfl (lv_at hl 1 rfl) ?_
                                                            refine q_get C h km0 fl_X11_20 (v := .ref (M 4)) rfl dX11_image_14 ?_
                                                            refine lv_iload_n hx hb dX11_image_17 rfl (lv_at hl 0 rfl) ?_
                                                            refine lv_aload_n hx hb dX11_image_18 rfl (lv_at hl 1 rfl) ?_
                                                            refine q_get C h km0 fl_X11_17 (v := .ref (M 3)) rfl dX11_image_19 ?_
                                                            refine lv_iload_n hx hb dX11_image_22 rfl (lv_at hl 0 rfl) ?_
                                                            refine q_iald C h km3 (by unfold vp_in; decide) dX11_image_23 ?_
                                                            refine lv_topi (fun x_ e_ => ?_)
                                                            obtain rfl : 0 = x_ := e_.symm
                                                            refine q_iast C h km4 (by unfold vp_in; decide) dX11_image_24 (fun H locs h => ?_)
                                                            rw [upd0] at h
                                                            rw [hu_id km4] at h
                                                            refine lv_iinc (v := 29) (lv' := [(1, .int 29), (0, .ref (M 0))]) hx hb dX11_image_25 hl (k := 0) rfl (by decide) (by decide) rfl (fun ls hl => ?_)
                                                            refine lv_goto (tgt := 7) hx hb dX11_image_28 (by decide) ?_
                                                            refine lv_iload_n hx hb dX11_image_7 rfl (lv_at hl 0 rfl) ?_
                                                            refine lv_bipush (v := 81) hx hb dX11_image_8 (by decide) ?_
                                                            refine lv_icmp_ge (tgt := 31) hx hb dX11_image_10 (by decide) (fun c_564 => ?_) (fun c_564 => ?_)
                                                            · exact absurd c_564 (by decide)
                                                            · refine lv_aload_n hx hb dX11_image_13 rfl (lv_at hl 1 rfl) ?_
                                                              refine q_get C h km0 fl_X11_20 (v := .ref (M 4)) rfl dX11_image_14 ?_
                                                              refine lv_iload_n hx hb dX11_image_17 rfl (lv_at hl 0 rfl) ?_
                                                              refine lv_aload_n hx hb dX11_image_18 rfl (lv_at hl 1 rfl) ?_
                                                              refine q_get C h km0 fl_X11_17 (v := .ref (M 3)) rfl dX11_image_19 ?_
                                                              refine lv_iload_n hx hb dX11_image_22 rfl (lv_at hl 0 rfl) ?_
                                                              refine q_iald C h km3 (by unfold vp_in; decide) dX11_image_23 ?_
                                                              refine lv_topi (fun x_ e_ => ?_)
                                                              obtain rfl : 0 = x_ := e_.symm
                                                              refine q_iast C h km4 (by unfold vp_in; decide) dX11_image_24 (fun H locs h => ?_)
                                                              rw [upd0] at h
                                                              rw [hu_id km4] at h
                                                              refine lv_iinc (v := 30) (lv' := [(1, .int 30), (0, .ref (M 0))]) hx hb dX11_image_25 hl (k := 0) rfl (by decide) (by decide) rfl (fun ls hl => ?_)
                                                              refine lv_goto (tgt := 7) hx hb dX11_image_28 (by decide) ?_
                                                              refine lv_iload_n hx hb dX11_image_7 rfl (lv_at hl 0 rfl) ?_
                                                              refine lv_bipush (v := 81) hx hb dX11_image_8 (by decide) ?_
                                                              refine lv_icmp_ge (tgt := 31) hx hb dX11_image_10 (by decide) (fun c_566 => ?_) (fun c_566 => ?_)
                                                              · exact absurd c_566 (by decide)
                                                              · refine lv_aload_n hx hb dX11_image_13 rfl (lv_at hl 1 rfl) ?_
                                                                refine q_get C h km0 fl_X11_20 (v := .ref (M 4)) rfl dX11_image_14 ?_
                                                                refine lv_iload_n hx hb dX11_image_17 rfl (lv_at hl 0 rfl) ?_
                                                                refine lv_aload_n hx hb dX11_image_18 rfl (lv_at hl 1 rfl) ?_
                                                                refine q_get C h km0 fl_X11_17 (v := .ref (M 3)) rfl dX11_image_19 ?_
                                                                refine lv_iload_n hx hb dX11_image_22 rfl (lv_at hl 0 rfl) ?_
                                                                refine q_iald C h km3 (by unfold vp_in; decide) dX11_image_23 ?_
                                                                refine lv_topi (fun x_ e_ => ?_)
                                                                obtain rfl : 0 = x_ := e_.symm
                                                                refine q_iast C h km4 (by unfold vp_in; decide) dX11_image_24 (fun H locs h => ?_)
                                                                rw [upd0] at h
                                                                rw [hu_id km4] at h
                                                                refine lv_iinc (v := 31) (lv' := [(1, .int 31), (0, .ref (M 0))]) hx hb dX11_image_25 hl (k := 0) rfl (by decide) (by decide) rfl (fun ls hl => ?_)
                                                                refine lv_goto (tgt := 7) hx hb dX11_image_28 (by decide) ?_
                                                                refine lv_iload_n hx hb dX11_image_7 rfl (lv_at hl 0 rfl) ?_
                                                                refine lv_bipush (v := 81) hx hb dX11_image_8 (by decide) ?_
                                                                refine lv_icmp_ge (tgt := 31) hx hb dX11_image_10 (by decide) (fun c_568 => ?_) (fun c_568 => ?_)
                                                                · exact absurd c_568 (by decide)
                                                                · refine lv_aload_n hx hb dX11_image_13 rfl (lv_at hl 1 rfl) ?_
                                                                  refine q_get C h km0 fl_X11_20 (v := .ref (M 4)) rfl dX11_image_14 ?_
                                                                  refine lv_iload_n hx hb dX11_image_17 rfl (lv_at hl 0 rfl) ?_
                                                                  refine lv_aload_n hx hb dX11_image_18 rfl (lv_at hl 1 rfl) ?_
                                                                  refine q_get C h km0 fl_X11_17 (v := .ref (M 3)) rfl dX11_image_19 ?_
                                                                  refine lv_iload_n hx hb dX11_image_22 rfl (lv_at hl 0 rfl) ?_
                                                                  refine q_iald C h km3 (by unfold vp_in; decide) dX11_image_23 ?_
                                                                  refine lv_topi (fun x_ e_ => ?_)
                                                                  obtain rfl : 0 = x_ := e_.symm
                                                                  refine q_iast C h km4 (by unfold vp_in; decide) dX11_image_24 (fun H locs h => ?_)
                                                                  rw [upd0] at h
                                                                  rw [hu_id km4] at h
                                                                  refine lv_iinc (v := 32) (lv' := [(1, .int 32), (0, .ref (M 0))]) hx hb dX11_image_25 hl (k := 0) rfl (by decide) (by decide) rfl (fun ls hl => ?_)
                                                                  refine lv_goto (tgt := 7) hx hb dX11_image_28 (by decide) ?_
                                                                  refine lv_iload_n hx hb dX11_image_7 rfl (lv_at hl 0 rfl) ?_
                                                                  refine lv_bipush (v := 81) hx hb dX11_image_8 (by decide) ?_
                                                                  refine lv_icmp_ge (tgt := 31) hx hb dX11_image_10 (by decide) (fun c_570 => ?_) (fun c_570 => ?_)
                                                                  · exact absurd c_570 (by decide)
                                                                  · refine lv_aload_n hx hb dX11_image_13 rfl (lv_at hl 1 rfl) ?_
                                                                    refine q_get C h km0 fl_X11_20 (v := .ref (M 4)) rfl dX11_image_14 ?_
                                                                    refine lv_iload_n hx hb dX11_image_17 rfl (lv_at hl 0 rfl) ?_
                                                                    refine lv_aload_n hx hb dX11_image_18 rfl (lv_at hl 1 rfl) ?_
                                                                    refine q_get C h km0 fl_X11_17 (v := .ref (M 3)) rfl dX11_image_19 ?_
                                                                    refine lv_iload_n hx hb dX11_image_22 rfl (lv_at hl 0 rfl) ?_
                                                                    refine q_iald C h km3 (by unfold vp_in; decide) dX11_image_23 ?_
                                                                    refine lv_topi (fun x_ e_ => ?_)
                                                                    obtain rfl : 0 = x_ := e_.symm
                                                                    refine q_iast C h km4 (by unfold vp_in; decide) dX11_image_24 (fun H locs h => ?_)
                                                                    rw [upd0] at h
                                                                    rw [hu_id km4] at h
                                                                    refine lv_iinc (v := 33) (lv' := [(1, .int 33), (0, .ref (M 0))]) hx hb dX11_image_25 hl (k := 0) rfl (by decide) (by decide) rfl (fun ls hl => ?_)
                                                                    refine lv_goto (tgt := 7) hx hb dX11_image_28 (by decide) ?_
                                                                    refine lv_iload_n hx hb dX11_image_7 rfl (lv_at hl 0 rfl) ?_
                                                                    refine lv_bipush (v := 81) hx hb dX11_image_8 (by decide) ?_
                                                                    refine lv_icmp_ge (tgt := 31) hx hb dX11_image_10 (by decide) (fun c_572 => ?_) (fun c_572 => ?_)
                                                                    · exact absurd c_572 (by decide)
                                                                    · refine lv_aload_n hx hb dX11_image_13 rfl (lv_at hl 1 rfl) ?_
                                                                      refine q_get C h km0 fl_X11_20 (v := .ref (M 4)) rfl dX11_image_14 ?_
                                                                      refine lv_iload_n hx hb dX11_image_17 rfl (lv_at hl 0 rfl) ?_
                                                                      refine lv_aload_n hx hb dX11_image_18 rfl (lv_at hl 1 rfl) ?_
                                                                      refine q_get C h km0 fl_X11_17 (v := .ref (M 3)) rfl dX11_image_19 ?_
                                                                      refine lv_iload_n hx hb dX11_image_22 rfl (lv_at hl 0 rfl) ?_
                                                                      refine q_iald C h km3 (by unfold vp_in; decide) dX11_image_23 ?_
                                                                      refine lv_topi (fun x_ e_ => ?_)
                                                                      obtain rfl : 0 = x_ := e_.symm
                                                                      refine q_iast C h km4 (by unfold vp_in; decide) dX11_image_24 (fun H locs h => ?_)
                                                                      rw [upd0] at h
                                                                      rw [hu_id km4] at h
                                                                      refine lv_iinc (v := 34) (lv' := [(1, .int 34), (0, .ref (M 0))]) hx hb dX11_image_25 hl (k := 0) rfl (by decide) (by decide) rfl (fun ls hl => ?_)
                                                                      refine lv_goto (tgt := 7) hx hb dX11_image_28 (by decide) ?_
                                                                      refine lv_iload_n hx hb dX11_image_7 rfl (lv_at hl 0 rfl) ?_
                                                                      refine lv_bipush (v := 81) hx hb dX11_image_8 (by decide) ?_
                                                                      refine lv_icmp_ge (tgt := 31) hx hb dX11_image_10 (by decide) (fun c_574 => ?_) (fun c_574 => ?_)
                                                                      · exact absurd c_574 (by decide)
                                                                      · refine lv_aload_n hx hb dX11_image_13 rfl (lv_at hl 1 rfl) ?_
                                                                        refine q_get C h km0 fl_X11_20 (v := .ref (M 4)) rfl dX11_image_14 ?_
                                                                        refine lv_iload_n hx hb dX11_image_17 rfl (lv_at hl 0 rfl) ?_
                                                                        refine lv_aload_n hx hb dX11_image_18 rfl (lv_at hl 1 rfl) ?_
                                                                        refine q_get C h km0 fl_X11_17 (v := .ref (M 3)) rfl dX11_image_19 ?_
                                                                        refine lv_iload_n hx hb dX11_image_22 rfl (lv_at hl 0 rfl) ?_
                                                                        refine q_iald C h km3 (by unfold vp_in; decide) dX11_image_23 ?_
                                                                        refine lv_topi (fun x_ e_ => ?_)
                                                                        obtain rfl : 0 = x_ := e_.symm
                                                                        refine q_iast C h km4 (by unfold vp_in; decide) dX11_image_24 (fun H locs h => ?_)
                                                                        rw [upd0] at h
                                                                        rw [hu_id km4] at h
                                                                        refine lv_iinc (v := 35) (lv' := [(1, .int 35), (0, .ref (M 0))]) hx hb dX11_image_25 hl (k := 0) rfl (by decide) (by decide) rfl (fun ls hl => ?_)
                                                                        refine lv_goto (tgt := 7) hx hb dX11_image_28 (by decide) ?_
                                                                        refine lv_iload_n hx hb dX11_image_7 rfl (lv_at hl 0 rfl) ?_
                                                                        refine lv_bipush (v := 81) hx hb dX11_image_8 (by decide) ?_
                                                                        refine lv_icmp_ge (tgt := 31) hx hb dX11_image_10 (by decide) (fun c_576 => ?_) (fun c_576 => ?_)
                                                                        · exact absurd c_576 (by decide)
                                                                        · refine lv_aload_n hx hb dX11_image_13 rfl (lv_at hl 1 rfl) ?_
                                                                          refine q_get C h km0 fl_X11_20 (v := .ref (M 4)) rfl dX11_image_14 ?_
                                                                          refine lv_iload_n hx hb dX11_image_17 rfl (lv_at hl 0 rfl) ?_
                                                                          refine lv_aload_n hx hb dX11_image_18 rfl (lv_at hl 1 rfl) ?_
                                                                          refine q_get C h km0 fl_X11_17 (v := .ref (M 3)) rfl dX11_image_19 ?_
                                                                          refine lv_iload_n hx hb dX11_image_22 rfl (lv_at hl 0 rfl) ?_
                                                                          refine q_iald C h km3 (by unfold vp_in; decide) dX11_image_23 ?_
                                                                          refine lv_topi (fun x_ e_ => ?_)
                                                                          obtain rfl : 0 = x_ := e_.symm
                                                                          refine q_iast C h km4 (by unfold vp_in; decide) dX11_image_24 (fun H locs h => ?_)
                                                                          rw [upd0] at h
                                                                          rw [hu_id km4] at h
                                                                          refine lv_iinc (v := 36) (lv' := [(1, .int 36), (0, .ref (M 0))]) hx hb dX11_image_25 hl (k := 0) rfl (by decide) (by decide) rfl (fun ls hl => ?_)
                                                                          refine lv_goto (tgt := 7) hx hb dX11_image_28 (by decide) ?_
                                                                          refine lv_iload_n hx hb dX11_image_7 rfl (lv_at hl 0 rfl) ?_
                                                                          refine lv_bipush (v := 81) hx hb dX11_image_8 (by decide) ?_
                                                                          refine lv_icmp_ge (tgt := 31) hx hb dX11_image_10 (by decide) (fun c_578 => ?_) (fun c_578 => ?_)
                                                                          · exact absurd c_578 (by decide)
                                                                          · refine lv_aload_n hx hb dX11_image_13 rfl (lv_at hl 1 rfl) ?_
                                                                            refine q_get C h km0 fl_X11_20 (v := .ref (M 4)) rfl dX11_image_14 ?_
                                                                            refine lv_iload_n hx hb dX11_image_17 rfl (lv_at hl 0 rfl) ?_
                                                                            refine lv_aload_n hx hb dX11_image_18 rfl (lv_at hl 1 rfl) ?_
                                                                            refine q_get C h km0 fl_X11_17 (v := .ref (M 3)) rfl dX11_image_19 ?_
                                                                            refine lv_iload_n hx hb dX11_image_22 rfl (lv_at hl 0 rfl) ?_
                                                                            refine q_iald C h km3 (by unfold vp_in; decide) dX11_image_23 ?_
                                                                            refine lv_topi (fun x_ e_ => ?_)
                                                                            obtain rfl : 0 = x_ := e_.symm
                                                                            refine q_iast C h km4 (by unfold vp_in; decide) dX11_image_24 (fun H locs h => ?_)
                                                                            rw [upd0] at h
                                                                            rw [hu_id km4] at h
                                                                            refine lv_iinc (v := 37) (lv' := [(1, .int 37), (0, .ref (M 0))]) hx hb dX11_image_25 hl (k := 0) rfl (by decide) (by decide) rfl (fun ls hl => ?_)
                                                                            refine lv_goto (tgt := 7) hx hb dX11_image_28 (by decide) ?_
                                                                            refine lv_iload_n hx hb dX11_image_7 rfl (lv_at hl 0 rfl) ?_
                                                                            refine lv_bipush (v := 81) hx hb dX11_image_8 (by decide) ?_
                                                                            refine lv_icmp_ge (tgt := 31) hx hb dX11_image_10 (by decide) (fun c_580 => ?_) (fun c_580 => ?_)
                                                                            · exact absurd c_580 (by decide)
                                                                            · refine lv_aload_n hx hb dX11_image_13 rfl (lv_at hl 1 rfl) ?_
                                                                              refine q_get C h km0 fl_X11_20 (v := .ref (M 4)) rfl dX11_image_14 ?_
                                                                              refine lv_iload_n hx hb dX11_image_17 rfl (lv_at hl 0 rfl) ?_
                                                                              refine lv_aload_n hx hb dX11_image_18 rfl (lv_at hl 1 rfl) ?_
                                                                              refine q_get C h km0 fl_X11_17 (v := .ref (M 3)) rfl dX11_image_19 ?_
                                                                              refine lv_iload_n hx hb dX11_image_22 rfl (lv_at hl 0 rfl) ?_
                                                                              refine q_iald C h km3 (by unfold vp_in; decide) dX11_image_23 ?_
                                                                              refine lv_topi (fun x_ e_ => ?_)
                                                                              obtain rfl : 0 = x_ := e_.symm
                                                                              refine q_iast C h km4 (by unfold vp_in; decide) dX11_image_24 (fun H locs h => ?_)
                                                                              rw [upd0] at h
                                                                              rw [hu_id km4] at h
                                                                              refine lv_iinc (v := 38) (lv' := [(1, .int 38), (0, .ref (M 0))]) hx hb dX11_image_25 hl (k := 0) rfl (by decide) (by decide) rfl (fun ls hl => ?_)
                                                                              refine lv_goto (tgt := 7) hx hb dX11_image_28 (by decide) ?_
                                                                              refine lv_iload_n hx hb dX11_image_7 rfl (lv_at hl 0 rfl) ?_
                                                                              refine lv_bipush (v := 81) hx hb dX11_image_8 (by decide) ?_
                                                                              refine lv_icmp_ge (tgt := 31) hx hb dX11_image_10 (by decide) (fun c_582 => ?_) (fun c_582 => ?_)
                                                                              · exact absurd c_582 (by decide)
                                                                              · refine lv_aload_n hx hb dX11_image_13 rfl (lv_at hl 1 rfl) ?_
                                                                                refine q_get C h km0 fl_X11_20 (v := .ref (M 4)) rfl dX11_image_14 ?_
                                                                                refine lv_iload_n hx hb dX11_image_17 rfl (lv_at hl 0 rfl) ?_
                                                                                refine lv_aload_n hx hb dX11_image_18 rfl (lv_at hl 1 rfl) ?_
                                                                                refine q_get C h km0 fl_X11_17 (v := .ref (M 3)) rfl dX11_image_19 ?_
                                                                                refine lv_iload_n hx hb dX11_image_22 rfl (lv_at hl 0 rfl) ?_
                                                                                refine q_iald C h km3 (by unfold vp_in; decide) dX11_image_23 ?_
                                                                                refine lv_topi (fun x_ e_ => ?_)
                                                                                obtain rfl : 0 = x_ := e_.symm
                                                                                refine q_iast C h km4 (by unfold vp_in; decide) dX11_image_24 (fun H locs h => ?_)
                                                                                rw [upd0] at h
                                                                                rw [hu_id km4] at h
                                                                                refine lv_iinc (v := 39) (lv' := [(1, .int 39), (0, .ref (M 0))]) hx hb dX11_image_25 hl (k := 0) rfl (by decide) (by decide) rfl (fun ls hl => ?_)
                                                                                refine lv_goto (tgt := 7) hx hb dX11_image_28 (by decide) ?_
                                                                                refine lv_iload_n hx hb dX11_image_7 rfl (lv_at hl 0 rfl) ?_
                                                                                refine lv_bipush (v := 81) hx hb dX11_image_8 (by decide) ?_
                                                                                refine lv_icmp_ge (tgt := 31) hx hb dX11_image_10 (by decide) (fun c_584 => ?_) (fun c_584 => ?_)
                                                                                · exact absurd c_584 (by decide)
                                                                                · refine lv_aload_n hx hb dX11_image_13 rfl (lv_at hl 1 rfl) ?_
                                                                                  refine q_get C h km0 fl_X11_20 (v := .ref (M 4)) rfl dX11_image_14 ?_
                                                                                  refine lv_iload_n hx hb dX11_image_17 rfl (lv_at hl 0 rfl) ?_
                                                                                  refine lv_aload_n hx hb dX11_image_18 rfl (lv_at hl 1 rfl) ?_
                                                                                  refine q_get C h km0 fl_X11_17 (v := .ref (M 3)) rfl dX11_image_19 ?_
                                                                                  refine lv_iload_n hx hb dX11_image_22 rfl (lv_at hl 0 rfl) ?_
                                                                                  refine q_iald C h km3 (by unfold vp_in; decide) dX11_image_23 ?_
                                                                                  refine lv_topi (fun x_ e_ => ?_)
                                                                                  obtain rfl : 0 = x_ := e_.symm
                                                                                  refine q_iast C h km4 (by unfold vp_in; decide) dX11_image_24 (fun H locs h => ?_)
                                                                                  rw [upd0] at h
                                                                                  rw [hu_id km4] at h
                                                                                  refine lv_iinc (v := 40) (lv' := [(1, .int 40), (0, .ref (M 0))]) hx hb dX11_image_25 hl (k := 0) rfl (by decide) (by decide) rfl (fun ls hl => ?_)
                                                                                  refine lv_goto (tgt := 7) hx hb dX11_image_28 (by decide) ?_
                                                                                  refine lv_iload_n hx hb dX11_image_7 rfl (lv_at hl 0 rfl) ?_
                                                                                  refine lv_bipush (v := 81) hx hb dX11_image_8 (by decide) ?_
                                                                                  refine lv_icmp_ge (tgt := 31) hx hb dX11_image_10 (by decide) (fun c_586 => ?_) (fun c_586 => ?_)
                                                                                  · exact absurd c_586 (by decide)
                                                                                  · refine lv_aload_n hx hb dX11_image_13 rfl (lv_at hl 1 rfl) ?_
                                                                                    refine q_get C h km0 fl_X11_20 (v := .ref (M 4)) rfl dX11_image_14 ?_
                                                                                    refine lv_iload_n hx hb dX11_image_17 rfl (lv_at hl 0 rfl) ?_
                                                                                    refine lv_aload_n hx hb dX11_image_18 rfl (lv_at hl 1 rfl) ?_
                                                                                    refine q_get C h km0 fl_X11_17 (v := .ref (M 3)) rfl dX11_image_19 ?_
                                                                                    refine lv_iload_n hx hb dX11_image_22 rfl (lv_at hl 0 rfl) ?_
                                                                                    refine q_iald C h km3 (by unfold vp_in; decide) dX11_image_23 ?_
                                                                                    refine lv_topi (fun x_ e_ => ?_)
                                                                                    obtain rfl : 0 = x_ := e_.symm
                                                                                    refine q_iast C h km4 (by unfold vp_in; decide) dX11_image_24 (fun H locs h => ?_)
                                                                                    rw [upd0] at h
                                                                                    rw [hu_id km4] at h
                                                                                    refine lv_iinc (v := 41) (lv' := [(1, .int 41), (0, .ref (M 0))]) hx hb dX11_image_25 hl (k := 0) rfl (by decide) (by decide) rfl (fun ls hl => ?_)
                                                                                    refine lv_goto (tgt := 7) hx hb dX11_image_28 (by decide) ?_
                                                                                    refine lv_iload_n hx hb dX11_image_7 rfl (lv_at hl 0 rfl) ?_
                                                                                    refine lv_bipush (v := 81) hx hb dX11_image_8 (by decide) ?_
                                                                                    refine lv_icmp_ge (tgt := 31) hx hb dX11_image_10 (by decide) (fun c_588 => ?_) (fun c_588 => ?_)
                                                                                    · exact absurd c_588 (by decide)
                                                                                    · refine lv_aload_n hx hb dX11_image_13 rfl (lv_at hl 1 rfl) ?_
                                                                                      refine q_get C h km0 fl_X11_20 (v := .ref (M 4)) rfl dX11_image_14 ?_
                                                                                      refine lv_iload_n hx hb dX11_image_17 rfl (lv_at hl 0 rfl) ?_
                                                                                      refine lv_aload_n hx hb dX11_image_18 rfl (lv_at hl 1 rfl) ?_
                                                                                      refine q_get C h km0 fl_X11_17 (v := .ref (M 3)) rfl dX11_image_19 ?_
                                                                                      refine lv_iload_n hx hb dX11_image_22 rfl (lv_at hl 0 rfl) ?_
                                                                                      refine q_iald C h km3 (by unfold vp_in; decide) dX11_image_23 ?_
                                                                                      refine lv_topi (fun x_ e_ => ?_)
                                                                                      obtain rfl : 0 = x_ := e_.symm
                                                                                      refine q_iast C h km4 (by unfold vp_in; decide) dX11_image_24 (fun H locs h => ?_)
                                                                                      rw [upd0] at h
                                                                                      rw [hu_id km4] at h
                                                                                      refine lv_iinc (v := 42) (lv' := [(1, .int 42), (0, .ref (M 0))]) hx hb dX11_image_25 hl (k := 0) rfl (by decide) (by decide) rfl (fun ls hl => ?_)
                                                                                      refine lv_goto (tgt := 7) hx hb dX11_image_28 (by decide) ?_
                                                                                      refine lv_iload_n hx hb dX11_image_7 rfl (lv_at hl 0 rfl) ?_
                                                                                      refine lv_bipush (v := 81) hx hb dX11_image_8 (by decide) ?_
                                                                                      refine lv_icmp_ge (tgt := 31) hx hb dX11_image_10 (by decide) (fun c_590 => ?_) (fun c_590 => ?_)
                                                                                      · exact absurd c_590 (by decide)
                                                                                      · refine lv_aload_n hx hb dX11_image_13 rfl (lv_at hl 1 rfl) ?_
                                                                                        refine q_get C h km0 fl_X11_20 (v := .ref (M 4)) rfl dX11_image_14 ?_
                                                                                        refine lv_iload_n hx hb dX11_image_17 rfl (lv_at hl 0 rfl) ?_
                                                                                        refine lv_aload_n hx hb dX11_image_18 rfl (lv_at hl 1 rfl) ?_
                                                                                        refine q_get C h km0 fl_X11_17 (v := .ref (M 3)) rfl dX11_image_19 ?_
                                                                                        refine lv_iload_n hx hb dX11_image_22 rfl (lv_at hl 0 rfl) ?_
                                                                                        refine q_iald C h km3 (by unfold vp_in; decide) dX11_image_23 ?_
                                                                                        refine lv_topi (fun x_ e_ => ?_)
                                                                                        obtain rfl : 0 = x_ := e_.symm
                                                                                        refine q_iast C h km4 (by unfold vp_in; decide) dX11_image_24 (fun H locs h => ?_)
                                                                                        rw [upd0] at h
                                                                                        rw [hu_id km4] at h
                                                                                        refine lv_iinc (v := 43) (lv' := [(1, .int 43), (0, .ref (M 0))]) hx hb dX11_image_25 hl (k := 0) rfl (by decide) (by decide) rfl (fun ls hl => ?_)
                                                                                        refine lv_goto (tgt := 7) hx hb dX11_image_28 (by decide) ?_
                                                                                        refine lv_iload_n hx hb dX11_image_7 rfl (lv_at hl 0 rfl) ?_
                                                                                        refine lv_bipush (v := 81) hx hb dX11_image_8 (by decide) ?_
                                                                                        refine lv_icmp_ge (tgt := 31) hx hb dX11_image_10 (by decide) (fun c_592 => ?_) (fun c_592 => ?_)
                                                                                        · exact absurd c_592 (by decide)
                                                                                        · refine lv_aload_n hx hb dX11_image_13 rfl (lv_at hl 1 rfl) ?_
                                                                                          refine q_get C h km0 fl_X11_20 (v := .ref (M 4)) rfl dX11_image_14 ?_
                                                                                          refine lv_iload_n hx hb dX11_image_17 rfl (lv_at hl 0 rfl) ?_
                                                                                          refine lv_aload_n hx hb dX11_image_18 rfl (lv_at hl 1 rfl) ?_
                                                                                          refine q_get C h km0 fl_X11_17 (v := .ref (M 3)) rfl dX11_image_19 ?_
                                                                                          refine lv_iload_n hx hb dX11_image_22 rfl (lv_at hl 0 rfl) ?_
                                                                                          refine q_iald C h km3 (by unfold vp_in; decide) dX11_image_23 ?_
                                                                                          refine lv_topi (fun x_ e_ => ?_)
                                                                                          obtain rfl : 0 = x_ := e_.symm
                                                                                          refine q_iast C h km4 (by unfold vp_in; decide) dX11_image_24 (fun H locs h => ?_)
                                                                                          rw [upd0] at h
                                                                                          rw [hu_id km4] at h
                                                                                          refine lv_iinc (v := 44) (lv' := [(1, .int 44), (0, .ref (M 0))]) hx hb dX11_image_25 hl (k := 0) rfl (by decide) (by decide) rfl (fun ls hl => ?_)
                                                                                          refine lv_goto (tgt := 7) hx hb dX11_image_28 (by decide) ?_
                                                                                          refine lv_iload_n hx hb dX11_image_7 rfl (lv_at hl 0 rfl) ?_
                                                                                          refine lv_bipush (v := 81) hx hb dX11_image_8 (by decide) ?_
                                                                                          refine lv_icmp_ge (tgt := 31) hx hb dX11_image_10 (by decide) (fun c_594 => ?_) (fun c_594 => ?_)
                                                                                          · exact absurd c_594 (by decide)
                                                                                          · refine lv_aload_n hx hb dX11_image_13 rfl (lv_at hl 1 rfl) ?_
                                                                                            refine q_get C h km0 fl_X11_20 (v := .ref (M 4)) rfl dX11_image_14 ?_
                                                                                            refine lv_iload_n hx hb dX11_image_17 rfl (lv_at hl 0 rfl) ?_
                                                                                            refine lv_aload_n hx hb dX11_image_18 rfl (lv_at hl 1 rfl) ?_
                                                                                            refine q_get C h km0 fl_X11_17 (v := .ref (M 3)) rfl dX11_image_19 ?_
                                                                                            refine lv_iload_n hx hb dX11_image_22 rfl (lv_at hl 0 rfl) ?_
                                                                                            refine q_iald C h km3 (by unfold vp_in; decide) dX11_image_23 ?_
                                                                                            refine lv_topi (fun x_ e_ => ?_)
                                                                                            obtain rfl : 0 = x_ := e_.symm
                                                                                            refine q_iast C h km4 (by unfold vp_in; decide) dX11_image_24 (fun H locs h => ?_)
                                                                                            rw [upd0] at h
                                                                                            rw [hu_id km4] at h
                                                                                            refine lv_iinc (v := 45) (lv' := [(1, .int 45), (0, .ref (M 0))]) hx hb dX11_image_25 hl (k := 0) rfl (by decide) (by decide) rfl (fun ls hl => ?_)
                                                                                            refine lv_goto (tgt := 7) hx hb dX11_image_28 (by decide) ?_
                                                                                            refine lv_iload_n hx hb dX11_image_7 rfl (lv_at hl 0 rfl) ?_
                                                                                            refine lv_bipush (v := 81) hx hb dX11_image_8 (by decide) ?_
                                                                                            refine lv_icmp_ge (tgt := 31) hx hb dX11_image_10 (by decide) (fun c_596 => ?_) (fun c_596 => ?_)
                                                                                            · exact absurd c_596 (by decide)
                                                                                            · refine lv_aload_n hx hb dX11_image_13 rfl (lv_at hl 1 rfl) ?_
                                                                                              refine q_get C h km0 fl_X11_20 (v := .ref (M 4)) rfl dX11_image_14 ?_
                                                                                              refine lv_iload_n hx hb dX11_image_17 rfl (lv_at hl 0 rfl) ?_
                                                                                              refine lv_aload_n hx hb dX11_image_18 rfl (lv_at hl 1 rfl) ?_
                                                                                              refine q_get C h km0 fl_X11_17 (v := .ref (M 3)) rfl dX11_image_19 ?_
                                                                                              refine lv_iload_n hx hb dX11_image_22 rfl (lv_at hl 0 rfl) ?_
                                                                                              refine q_iald C h km3 (by unfold vp_in; decide) dX11_image_23 ?_
                                                                                              refine lv_topi (fun x_ e_ => ?_)
                                                                                              obtain rfl : 0 = x_ := e_.symm
                                                                                              refine q_iast C h km4 (by unfold vp_in; decide) dX11_image_24 (fun H locs h => ?_)
                                                                                              rw [upd0] at h
                                                                                              rw [hu_id km4] at h
                                                                                              refine lv_iinc (v := 46) (lv' := [(1, .int 46), (0, .ref (M 0))]) hx hb dX11_image_25 hl (k := 0) rfl (by decide) (by decide) rfl (fun ls hl => ?_)
                                                                                              refine lv_goto (tgt := 7) hx hb dX11_image_28 (by decide) ?_
                                                                                              refine lv_iload_n hx hb dX11_image_7 rfl (lv_at hl 0 rfl) ?_
                                                                                              refine lv_bipush (v := 81) hx hb dX11_image_8 (by decide) ?_
                                                                                              refine lv_icmp_ge (tgt := 31) hx hb dX11_image_10 (by decide) (fun c_598 => ?_) (fun c_598 => ?_)
                                                                                              · exact absurd c_598 (by decide)
                                                                                              · refine lv_aload_n hx hb dX11_image_13 rfl (lv_at hl 1 rfl) ?_
                                                                                                refine q_get C h km0 fl_X11_20 (v := .ref (M 4)) rfl dX11_image_14 ?_
                                                                                                refine lv_iload_n hx hb dX11_image_17 rfl (lv_at hl 0 rfl) ?_
                                                                                                refine lv_aload_n hx hb dX11_image_18 rfl (lv_at hl 1 rfl) ?_
                                                                                                refine q_get C h km0 fl_X11_17 (v := .ref (M 3)) rfl dX11_image_19 ?_
                                                                                                refine lv_iload_n hx hb dX11_image_22 rfl (lv_at hl 0 rfl) ?_
                                                                                                refine q_iald C h km3 (by unfold vp_in; decide) dX11_image_23 ?_
                                                                                                refine lv_topi (fun x_ e_ => ?_)
                                                                                                obtain rfl : 0 = x_ := e_.symm
                                                                                                refine q_iast C h km4 (by unfold vp_in; decide) dX11_image_24 (fun H locs h => ?_)
                                                                                                rw [upd0] at h
                                                                                                rw [hu_id km4] at h
                                                                                                refine lv_iinc (v := 47) (lv' := [(1, .int 47), (0, .ref (M 0))]) hx hb dX11_image_25 hl (k := 0) rfl (by decide) (by decide) rfl (fun ls hl => ?_)
                                                                                                refine lv_goto (tgt := 7) hx hb dX11_image_28 (by decide) ?_
                                                                                                refine lv_iload_n hx hb dX11_image_7 rfl (lv_at hl 0 rfl) ?_
                                                                                                refine lv_bipush (v := 81) hx hb dX11_image_8 (by decide) ?_
                                                                                                refine lv_icmp_ge (tgt := 31) hx hb dX11_image_10 (by decide) (fun c_600 => ?_) (fun c_600 => ?_)
                                                                                                · exact absurd c_600 (by decide)
                                                                                                · refine lv_aload_n hx hb dX11_image_13 rfl (lv_at hl 1 rfl) ?_
                                                                                                  refine q_get C h km0 fl_X11_20 (v := .ref (M 4)) rfl dX11_image_14 ?_
                                                                                                  refine lv_iload_n hx hb dX11_image_17 rfl (lv_at hl 0 rfl) ?_
                                                                                                  refine lv_aload_n hx hb dX11_image_18 rfl (lv_at hl 1 rfl) ?_
                                                                                                  refine q_get C h km0 fl_X11_17 (v := .ref (M 3)) rfl dX11_image_19 ?_
                                                                                                  refine lv_iload_n hx hb dX11_image_22 rfl (lv_at hl 0 rfl) ?_
                                                                                                  refine q_iald C h km3 (by unfold vp_in; decide) dX11_image_23 ?_
                                                                                                  refine lv_topi (fun x_ e_ => ?_)
                                                                                                  obtain rfl : 0 = x_ := e_.symm
                                                                                                  refine q_iast C h km4 (by unfold vp_in; decide) dX11_image_24 (fun H locs h => ?_)
                                                                                                  rw [upd0] at h
                                                                                                  rw [hu_id km4] at h
                                                                                                  refine lv_iinc (v := 48) (lv' := [(1, .int 48), (0, .ref (M 0))]) hx hb dX11_image_25 hl (k := 0) rfl (by decide) (by decide) rfl (fun ls hl => ?_)
                                                                                                  refine lv_goto (tgt := 7) hx hb dX11_image_28 (by decide) ?_
                                                                                                  refine lv_iload_n hx hb dX11_image_7 rfl (lv_at hl 0 rfl) ?_
                                                                                                  refine lv_bipush (v := 81) hx hb dX11_image_8 (by decide) ?_
                                                                                                  refine lv_icmp_ge (tgt := 31) hx hb dX11_image_10 (by decide) (fun c_602 => ?_) (fun c_602 => ?_)
                                                                                                  · exact absurd c_602 (by decide)
                                                                                                  · refine lv_aload_n hx hb dX11_image_13 rfl (lv_at hl 1 rfl) ?_
                                                                                                    refine q_get C h km0 fl_X11_20 (v := .ref (M 4)) rfl dX11_image_14 ?_
                                                                                                    refine lv_iload_n hx hb dX11_image_17 rfl (lv_at hl 0 rfl) ?_
                                                                                                    refine lv_aload_n hx hb dX11_image_18 rfl (lv_at hl 1 rfl) ?_
                                                                                                    refine q_get C h km0 fl_X11_17 (v := .ref (M 3)) rfl dX11_image_19 ?_
                                                                                                    refine lv_iload_n hx hb dX11_image_22 rfl (lv_at hl 0 rfl) ?_
                                                                                                    refine q_iald C h km3 (by unfold vp_in; decide) dX11_image_23 ?_
                                                                                                    refine lv_topi (fun x_ e_ => ?_)
                                                                                                    obtain rfl : 0 = x_ := e_.symm
                                                                                                    refine q_iast C h km4 (by unfold vp_in; decide) dX11_image_24 (fun H locs h => ?_)
                                                                                                    rw [upd0] at h
                                                                                                    rw [hu_id km4] at h
                                                                                                    refine lv_iinc (v := 49) (lv' := [(1, .int 49), (0, .ref (M 0))]) hx hb dX11_image_25 hl (k := 0) rfl (by decide) (by decide) rfl (fun ls hl => ?_)
                                                                                                    refine lv_goto (tgt := 7) hx hb dX11_image_28 (by decide) ?_
                                                                                                    refine lv_iload_n hx hb dX11_image_7 rfl (lv_at hl 0 rfl) ?_
                                                                                                    refine lv_bipush (v := 81) hx hb dX11_image_8 (by decide) ?_
                                                                                                    refine lv_icmp_ge (tgt := 31) hx hb dX11_image_10 (by decide) (fun c_604 => ?_) (fun c_604 => ?_)
                                                                                                    · exact absurd c_604 (by decide)
                                                                                                    · refine lv_aload_n hx hb dX11_image_13 rfl (lv_at hl 1 rfl) ?_
                                                                                                      refine q_get C h km0 fl_X11_20 (v := .ref (M 4)) rfl dX11_image_14 ?_
                                                                                                      refine lv_iload_n hx hb dX11_image_17 rfl (lv_at hl 0 rfl) ?_
                                                                                                      refine lv_aload_n hx hb dX11_image_18 rfl (lv_at hl 1 rfl) ?_
                                                                                                      refine q_get C h km0 fl_X11_17 (v := .ref (M 3)) rfl dX11_image_19 ?_
                                                                                                      refine lv_iload_n hx hb dX11_image_22 rfl (lv_at hl 0 rfl) ?_
                                                                                                      refine q_iald C h km3 (by unfold vp_in; decide) dX11_image_23 ?_
                                                                                                      refine lv_topi (fun x_ e_ => ?_)
                                                                                                      obtain rfl : 0 = x_ := e_.symm
                                                                                                      refine q_iast C h km4 (by unfold vp_in; decide) dX11_image_24 (fun H locs h => ?_)
                                                                                                      rw [upd0] at h
                                                                                                      rw [hu_id km4] at h
                                                                                                      refine lv_iinc (v := 50) (lv' := [(1, .int 50), (0, .ref (M 0))]) hx hb dX11_image_25 hl (k := 0) rfl (by decide) (by decide) rfl (fun ls hl => ?_)
                                                                                                      refine lv_goto (tgt := 7) hx hb dX11_image_28 (by decide) ?_
                                                                                                      refine lv_iload_n hx hb dX11_image_7 rfl (lv_at hl 0 rfl) ?_
                                                                                                      refine lv_bipush (v := 81) hx hb dX11_image_8 (by decide) ?_
                                                                                                      refine lv_icmp_ge (tgt := 31) hx hb dX11_image_10 (by decide) (fun c_606 => ?_) (fun c_606 => ?_)
                                                                                                      · exact absurd c_606 (by decide)
                                                                                                      · refine lv_aload_n hx hb dX11_image_13 rfl (lv_at hl 1 rfl) ?_
                                                                                                        refine q_get C h km0 fl_X11_20 (v := .ref (M 4)) rfl dX11_image_14 ?_
                                                                                                        refine lv_iload_n hx hb dX11_image_17 rfl (lv_at hl 0 rfl) ?_
                                                                                                        refine lv_aload_n hx hb dX11_image_18 rfl (lv_at hl 1 rfl) ?_
                                                                                                        refine q_get C h km0 fl_X11_17 (v := .ref (M 3)) rfl dX11_image_19 ?_
                                                                                                        refine lv_iload_n hx hb dX11_image_22 rfl (lv_at hl 0 rfl) ?_
                                                                                                        refine q_iald C h km3 (by unfold vp_in; decide) dX11_image_23 ?_
                                                                                                        refine lv_topi (fun x_ e_ => ?_)
                                                                                                        obtain rfl : 0 = x_ := e_.symm
                                                                                                        refine q_iast C h km4 (by unfold vp_in; decide) dX11_image_24 (fun H locs h => ?_)
                                                                                                        rw [upd0] at h
                                                                                                        rw [hu_id km4] at h
                                                                                                        refine lv_iinc (v := 51) (lv' := [(1, .int 51), (0, .ref (M 0))]) hx hb dX11_image_25 hl (k := 0) rfl (by decide) (by decide) rfl (fun ls hl => ?_)
                                                                                                        refine lv_goto (tgt := 7) hx hb dX11_image_28 (by decide) ?_
                                                                                                        refine lv_iload_n hx hb dX11_image_7 rfl (lv_at hl 0 rfl) ?_
                                                                                                        refine lv_bipush (v := 81) hx hb dX11_image_8 (by decide) ?_
                                                                                                        refine lv_icmp_ge (tgt := 31) hx hb dX11_image_10 (by decide) (fun c_608 => ?_) (fun c_608 => ?_)
                                                                                                        · exact absurd c_608 (by decide)
                                                                                                        · refine lv_aload_n hx hb dX11_image_13 rfl (lv_at hl 1 rfl) ?_
                                                                                                          refine q_get C h km0 fl_X11_20 (v := .ref (M 4)) rfl dX11_image_14 ?_
                                                                                                          refine lv_iload_n hx hb dX11_image_17 rfl (lv_at hl 0 rfl) ?_
                                                                                                          refine lv_aload_n hx hb dX11_image_18 rfl (lv_at hl 1 rfl) ?_
                                                                                                          refine q_get C h km0 fl_X11_17 (v := .ref (M 3)) rfl dX11_image_19 ?_
                                                                                                          refine lv_iload_n hx hb dX11_image_22 rfl (lv_at hl 0 rfl) ?_
                                                                                                          refine q_iald C h km3 (by unfold vp_in; decide) dX11_image_23 ?_
                                                                                                          refine lv_topi (fun x_ e_ => ?_)
                                                                                                          obtain rfl : 0 = x_ := e_.symm
                                                                                                          refine q_iast C h km4 (by unfold vp_in; decide) dX11_image_24 (fun H locs h => ?_)
                                                                                                          rw [upd0] at h
                                                                                                          rw [hu_id km4] at h
                                                                                                          refine lv_iinc (v := 52) (lv' := [(1, .int 52), (0, .ref (M 0))]) hx hb dX11_image_25 hl (k := 0) rfl (by decide) (by decide) rfl (fun ls hl => ?_)
                                                                                                          refine lv_goto (tgt := 7) hx hb dX11_image_28 (by decide) ?_
                                                                                                          refine lv_iload_n hx hb dX11_image_7 rfl (lv_at hl 0 rfl) ?_
                                                                                                          refine lv_bipush (v := 81) hx hb dX11_image_8 (by decide) ?_
                                                                                                          refine lv_icmp_ge (tgt := 31) hx hb dX11_image_10 (by decide) (fun c_610 => ?_) (fun c_610 => ?_)
                                                                                                          · exact absurd c_610 (by decide)
                                                                                                          · refine lv_aload_n hx hb dX11_image_13 rfl (lv_at hl 1 rfl) ?_
                                                                                                            refine q_get C h km0 fl_X11_20 (v := .ref (M 4)) rfl dX11_image_14 ?_
                                                                                                            refine lv_iload_n hx hb dX11_image_17 rfl (lv_at hl 0 rfl) ?_
                                                                                                            refine lv_aload_n hx hb dX11_image_18 rfl (lv_at hl 1 rfl) ?_
                                                                                                            refine q_get C h km0 fl_X11_17 (v := .ref (M 3)) rfl dX11_image_19 ?_
                                                                                                            refine lv_iload_n hx hb dX11_image_22 rfl (lv_at hl 0 rfl) ?_
                                                                                                            refine q_iald C h km3 (by unfold vp_in; decide) dX11_image_23 ?_
                                                                                                            refine lv_topi (fun x_ e_ => ?_)
                                                                                                            obtain rfl : 0 = x_ := e_.symm
                                                                                                            refine q_iast C h km4 (by unfold vp_in; decide) dX11_image_24 (fun H locs h => ?_)
                                                                                                            rw [upd0] at h
                                                                                                            rw [hu_id km4] at h
                                                                                                            refine lv_iinc (v := 53) (lv' := [(1, .int 53), (0, .ref (M 0))]) hx hb dX11_image_25 hl (k := 0) rfl (by decide) (by decide) rfl (fun ls hl => ?_)
                                                                                                            refine lv_goto (tgt := 7) hx hb dX11_image_28 (by decide) ?_
                                                                                                            refine lv_iload_n hx hb dX11_image_7 rfl (lv_at hl 0 rfl) ?_
                                                                                                            refine lv_bipush (v := 81) hx hb dX11_image_8 (by decide) ?_
                                                                                                            refine lv_icmp_ge (tgt := 31) hx hb dX11_image_10 (by decide) (fun c_612 => ?_) (fun c_612 => ?_)
                                                                                                            · exact absurd c_612 (by decide)
                                                                                                            · refine lv_aload_n hx hb dX11_image_13 rfl (lv_at hl 1 rfl) ?_
                                                                                                              refine q_get C h km0 fl_X11_20 (v := .ref (M 4)) rfl dX11_image_14 ?_
                                                                                                              refine lv_iload_n hx hb dX11_image_17 rfl (lv_at hl 0 rfl) ?_
                                                                                                              refine lv_aload_n hx hb dX11_image_18 rfl (lv_at hl 1 rfl) ?_
                                                                                                              refine q_get C h km0 fl_X11_17 (v := .ref (M 3)) rfl dX11_image_19 ?_
                                                                                                              refine lv_iload_n hx hb dX11_image_22 rfl (lv_at hl 0 rfl) ?_
                                                                                                              refine q_iald C h km3 (by unfold vp_in; decide) dX11_image_23 ?_
                                                                                                              refine lv_topi (fun x_ e_ => ?_)
                                                                                                              obtain rfl : 0 = x_ := e_.symm
                                                                                                              refine q_iast C h km4 (by unfold vp_in; decide) dX11_image_24 (fun H locs h => ?_)
                                                                                                              rw [upd0] at h
                                                                                                              rw [hu_id km4] at h
                                                                                                              refine lv_iinc (v := 54) (lv' := [(1, .int 54), (0, .ref (M 0))]) hx hb dX11_image_25 hl (k := 0) rfl (by decide) (by decide) rfl (fun ls hl => ?_)
                                                                                                              refine lv_goto (tgt := 7) hx hb dX11_image_28 (by decide) ?_
                                                                                                              refine lv_iload_n hx hb dX11_image_7 rfl (lv_at hl 0 rfl) ?_
                                                                                                              refine lv_bipush (v := 81) hx hb dX11_image_8 (by decide) ?_
                                                                                                              refine lv_icmp_ge (tgt := 31) hx hb dX11_image_10 (by decide) (fun c_614 => ?_) (fun c_614 => ?_)
                                                                                                              · exact absurd c_614 (by decide)
                                                                                                              · refine lv_aload_n hx hb dX11_image_13 rfl (lv_at hl 1 rfl) ?_
                                                                                                                refine q_get C h km0 fl_X11_20 (v := .ref (M 4)) rfl dX11_image_14 ?_
                                                                                                                refine lv_iload_n hx hb dX11_image_17 rfl (lv_at hl 0 rfl) ?_
                                                                                                                refine lv_aload_n hx hb dX11_image_18 rfl (lv_at hl 1 rfl) ?_
                                                                                                                refine q_get C h km0 fl_X11_17 (v := .ref (M 3)) rfl dX11_image_19 ?_
                                                                                                                refine lv_iload_n hx hb dX11_image_22 rfl (lv_at hl 0 rfl) ?_
                                                                                                                refine q_iald C h km3 (by unfold vp_in; decide) dX11_image_23 ?_
                                                                                                                refine lv_topi (fun x_ e_ => ?_)
                                                                                                                obtain rfl : 0 = x_ := e_.symm
                                                                                                                refine q_iast C h km4 (by unfold vp_in; decide) dX11_image_24 (fun H locs h => ?_)
                                                                                                                rw [upd0] at h
                                                                                                                rw [hu_id km4] at h
                                                                                                                refine lv_iinc (v := 55) (lv' := [(1, .int 55), (0, .ref (M 0))]) hx hb dX11_image_25 hl (k := 0) rfl (by decide) (by decide) rfl (fun ls hl => ?_)
                                                                                                                refine lv_goto (tgt := 7) hx hb dX11_image_28 (by decide) ?_
                                                                                                                refine lv_iload_n hx hb dX11_image_7 rfl (lv_at hl 0 rfl) ?_
                                                                                                                refine lv_bipush (v := 81) hx hb dX11_image_8 (by decide) ?_
                                                                                                                refine lv_icmp_ge (tgt := 31) hx hb dX11_image_10 (by decide) (fun c_616 => ?_) (fun c_616 => ?_)
                                                                                                                · exact absurd c_616 (by decide)
                                                                                                                · refine lv_aload_n hx hb dX11_image_13 rfl (lv_at hl 1 rfl) ?_
                                                                                                                  refine q_get C h km0 fl_X11_20 (v := .ref (M 4)) rfl dX11_image_14 ?_
                                                                                                                  refine lv_iload_n hx hb dX11_image_17 rfl (lv_at hl 0 rfl) ?_
                                                                                                                  refine lv_aload_n hx hb dX11_image_18 rfl (lv_at hl 1 rfl) ?_
                                                                                                                  refine q_get C h km0 fl_X11_17 (v := .ref (M 3)) rfl dX11_image_19 ?_
                                                                                                                  refine lv_iload_n hx hb dX11_image_22 rfl (lv_at hl 0 rfl) ?_
                                                                                                                  refine q_iald C h km3 (by unfold vp_in; decide) dX11_image_23 ?_
                                                                                                                  refine lv_topi (fun x_ e_ => ?_)
                                                                                                                  obtain rfl : 0 = x_ := e_.symm
                                                                                                                  refine q_iast C h km4 (by unfold vp_in; decide) dX11_image_24 (fun H locs h => ?_)
                                                                                                                  rw [upd0] at h
                                                                                                                  rw [hu_id km4] at h
                                                                                                                  refine lv_iinc (v := 56) (lv' := [(1, .int 56), (0, .ref (M 0))]) hx hb dX11_image_25 hl (k := 0) rfl (by decide) (by decide) rfl (fun ls hl => ?_)
                                                                                                                  refine lv_goto (tgt := 7) hx hb dX11_image_28 (by decide) ?_
                                                                                                                  refine lv_iload_n hx hb dX11_image_7 rfl (lv_at hl 0 rfl) ?_
                                                                                                                  refine lv_bipush (v := 81) hx hb dX11_image_8 (by decide) ?_
                                                                                                                  refine lv_icmp_ge (tgt := 31) hx hb dX11_image_10 (by decide) (fun c_618 => ?_) (fun c_618 => ?_)
                                                                                                                  · exact absurd c_618 (by decide)
                                                                                                                  · refine lv_aload_n hx hb dX11_image_13 rfl (lv_at hl 1 rfl) ?_
                                                                                                                    refine q_get C h km0 fl_X11_20 (v := .ref (M 4)) rfl dX11_image_14 ?_
                                                                                                                    refine lv_iload_n hx hb dX11_image_17 rfl (lv_at hl 0 rfl) ?_
                                                                                                                    refine lv_aload_n hx hb dX11_image_18 rfl (lv_at hl 1 rfl) ?_
                                                                                                                    refine q_get C h km0 fl_X11_17 (v := .ref (M 3)) rfl dX11_image_19 ?_
                                                                                                                    refine lv_iload_n hx hb dX11_image_22 rfl (lv_at hl 0 rfl) ?_
                                                                                                                    refine q_iald C h km3 (by unfold vp_in; decide) dX11_image_23 ?_
                                                                                                                    refine lv_topi (fun x_ e_ => ?_)
                                                                                                                    obtain rfl : 0 = x_ := e_.symm
                                                                                                                    refine q_iast C h km4 (by unfold vp_in; decide) dX11_image_24 (fun H locs h => ?_)
                                                                                                                    rw [upd0] at h
                                                                                                                    rw [hu_id km4] at h
                                                                                                                    refine lv_iinc (v := 57) (lv' := [(1, .int 57), (0, .ref (M 0))]) hx hb dX11_image_25 hl (k := 0) rfl (by decide) (by decide) rfl (fun ls hl => ?_)
                                                                                                                    refine lv_goto (tgt := 7) hx hb dX11_image_28 (by decide) ?_
                                                                                                                    refine lv_iload_n hx hb dX11_image_7 rfl (lv_at hl 0 rfl) ?_
                                                                                                                    refine lv_bipush (v := 81) hx hb dX11_image_8 (by decide) ?_
                                                                                                                    refine lv_icmp_ge (tgt := 31) hx hb dX11_image_10 (by decide) (fun c_620 => ?_) (fun c_620 => ?_)
                                                                                                                    · exact absurd c_620 (by decide)
                                                                                                                    · refine lv_aload_n hx hb dX11_image_13 rfl (lv_at hl 1 rfl) ?_
                                                                                                                      refine q_get C h km0 fl_X11_20 (v := .ref (M 4)) rfl dX11_image_14 ?_
                                                                                                                      refine lv_iload_n hx hb dX11_image_17 rfl (lv_at hl 0 rfl) ?_
                                                                                                                      refine lv_aload_n hx hb dX11_image_18 rfl (lv_at hl 1 rfl) ?_
                                                                                                                      refine q_get C h km0 fl_X11_17 (v := .ref (M 3)) rfl dX11_image_19 ?_
                                                                                                                      refine lv_iload_n hx hb dX11_image_22 rfl (lv_at hl 0 rfl) ?_
                                                                                                                      refine q_iald C h km3 (by unfold vp_in; decide) dX11_image_23 ?_
                                                                                                                      refine lv_topi (fun x_ e_ => ?_)
                                                                                                                      obtain rfl : 0 = x_ := e_.symm
                                                                                                                      refine q_iast C h km4 (by unfold vp_in; decide) dX11_image_24 (fun H locs h => ?_)
                                                                                                                      rw [upd0] at h
                                                                                                                      rw [hu_id km4] at h
                                                                                                                      refine lv_iinc (v := 58) (lv' := [(1, .int 58), (0, .ref (M 0))]) hx hb dX11_image_25 hl (k := 0) rfl (by decide) (by decide) rfl (fun ls hl => ?_)
                                                                                                                      refine lv_goto (tgt := 7) hx hb dX11_image_28 (by decide) ?_
                                                                                                                      refine lv_iload_n hx hb dX11_image_7 rfl (lv_at hl 0 rfl) ?_
                                                                                                                      refine lv_bipush (v := 81) hx hb dX11_image_8 (by decide) ?_
                                                                                                                      refine lv_icmp_ge (tgt := 31) hx hb dX11_image_10 (by decide) (fun c_622 => ?_) (fun c_622 => ?_)
                                                                                                                      · exact absurd c_622 (by decide)
                                                                                                                      · refine lv_aload_n hx hb dX11_image_13 rfl (lv_at hl 1 rfl) ?_
                                                                                                                        refine q_get C h km0 fl_X11_20 (v := .ref (M 4)) rfl dX11_image_14 ?_
                                                                                                                        refine lv_iload_n hx hb dX11_image_17 rfl (lv_at hl 0 rfl) ?_
                                                                                                                        refine lv_aload_n hx hb dX11_image_18 rfl (lv_at hl 1 rfl) ?_
                                                                                                                        refine q_get C h km0 fl_X11_17 (v := .ref (M 3)) rfl dX11_image_19 ?_
                                                                                                                        refine lv_iload_n hx hb dX11_image_22 rfl (lv_at hl 0 rfl) ?_
                                                                                                                        refine q_iald C h km3 (by unfold vp_in; decide) dX11_image_23 ?_
                                                                                                                        refine lv_topi (fun x_ e_ => ?_)
                                                                                                                        obtain rfl : 0 = x_ := e_.symm
                                                                                                                        refine q_iast C h km4 (by unfold vp_in; decide) dX11_image_24 (fun H locs h => ?_)
                                                                                                                        rw [upd0] at h
                                                                                                                        rw [hu_id km4] at h
                                                                                                                        refine lv_iinc (v := 59) (lv' := [(1, .int 59), (0, .ref (M 0))]) hx hb dX11_image_25 hl (k := 0) rfl (by decide) (by decide) rfl (fun ls hl => ?_)
                                                                                                                        refine lv_goto (tgt := 7) hx hb dX11_image_28 (by decide) ?_
                                                                                                                        refine lv_iload_n hx hb dX11_image_7 rfl (lv_at hl 0 rfl) ?_
                                                                                                                        refine lv_bipush (v := 81) hx hb dX11_image_8 (by decide) ?_
                                                                                                                        refine lv_icmp_ge (tgt := 31) hx hb dX11_image_10 (by decide) (fun c_624 => ?_) (fun c_624 => ?_)
                                                                                                                        · exact absurd c_624 (by decide)
                                                                                                                        · refine lv_aload_n hx hb dX11_image_13 rfl (lv_at hl 1 rfl) ?_
                                                                                                                          refine q_get C h km0 fl_X11_20 (v := .ref (M 4)) rfl dX11_image_14 ?_
                                                                                                                          refine lv_iload_n hx hb dX11_image_17 rfl (lv_at hl 0 rfl) ?_
                                                                                                                          refine lv_aload_n hx hb dX11_image_18 rfl (lv_at hl 1 rfl) ?_
                                                                                                                          refine q_get C h km0 fl_X11_17 (v := .ref (M 3)) rfl dX11_image_19 ?_
                                                                                                                          refine lv_iload_n hx hb dX11_image_22 rfl (lv_at hl 0 rfl) ?_
                                                                                                                          refine q_iald C h km3 (by unfold vp_in; decide) dX11_image_23 ?_
                                                                                                                          refine lv_topi (fun x_ e_ => ?_)
                                                                                                                          obtain rfl : 0 = x_ := e_.symm
                                                                                                                          refine q_iast C h km4 (by unfold vp_in; decide) dX11_image_24 (fun H locs h => ?_)
                                                                                                                          rw [upd0] at h
                                                                                                                          rw [hu_id km4] at h
                                                                                                                          refine lv_iinc (v := 60) (lv' := [(1, .int 60), (0, .ref (M 0))]) hx hb dX11_image_25 hl (k := 0) rfl (by decide) (by decide) rfl (fun ls hl => ?_)
                                                                                                                          refine lv_goto (tgt := 7) hx hb dX11_image_28 (by decide) ?_
                                                                                                                          refine lv_iload_n hx hb dX11_image_7 rfl (lv_at hl 0 rfl) ?_
                                                                                                                          refine lv_bipush (v := 81) hx hb dX11_image_8 (by decide) ?_
                                                                                                                          refine lv_icmp_ge (tgt := 31) hx hb dX11_image_10 (by decide) (fun c_626 => ?_) (fun c_626 => ?_)
                                                                                                                          · exact absurd c_626 (by decide)
                                                                                                                          · refine lv_aload_n hx hb dX11_image_13 rfl (lv_at hl 1 rfl) ?_
                                                                                                                            refine q_get C h km0 fl_X11_20 (v := .ref (M 4)) rfl dX11_image_14 ?_
                                                                                                                            refine lv_iload_n hx hb dX11_image_17 rfl (lv_at hl 0 rfl) ?_
                                                                                                                            refine lv_aload_n hx hb dX11_image_18 rfl (lv_at hl 1 rfl) ?_
                                                                                                                            refine q_get C h km0 fl_X11_17 (v := .ref (M 3)) rfl dX11_image_19 ?_
                                                                                                                            refine lv_iload_n hx hb dX11_image_22 rfl (lv_at hl 0 rfl) ?_
                                                                                                                            refine q_iald C h km3 (by unfold vp_in; decide) dX11_image_23 ?_
                                                                                                                            refine lv_topi (fun x_ e_ => ?_)
                                                                                                                            obtain rfl : 0 = x_ := e_.symm
                                                                                                                            refine q_iast C h km4 (by unfold vp_in; decide) dX11_image_24 (fun H locs h => ?_)
                                                                                                                            rw [upd0] at h
                                                                                                                            rw [hu_id km4] at h
                                                                                                                            refine lv_iinc (v := 61) (lv' := [(1, .int 61), (0, .ref (M 0))]) hx hb dX11_image_25 hl (k := 0) rfl (by decide) (by decide) rfl (fun ls hl => ?_)
                                                                                                                            refine lv_goto (tgt := 7) hx hb dX11_image_28 (by decide) ?_
                                                                                                                            refine lv_iload_n hx hb dX11_image_7 rfl (lv_at hl 0 rfl) ?_
                                                                                                                            refine lv_bipush (v := 81) hx hb dX11_image_8 (by decide) ?_
                                                                                                                            refine lv_icmp_ge (tgt := 31) hx hb dX11_image_10 (by decide) (fun c_628 => ?_) (fun c_628 => ?_)
                                                                                                                            · exact absurd c_628 (by decide)
                                                                                                                            · refine lv_aload_n hx hb dX11_image_13 rfl (lv_at hl 1 rfl) ?_
                                                                                                                              refine q_get C h km0 fl_X11_20 (v := .ref (M 4)) rfl dX11_image_14 ?_
                                                                                                                              refine lv_iload_n hx hb dX11_image_17 rfl (lv_at hl 0 rfl) ?_
                                                                                                                              refine lv_aload_n hx hb dX11_image_18 rfl (lv_at hl 1 rfl) ?_
                                                                                                                              refine q_get C h km0 fl_X11_17 (v := .ref (M 3)) rfl dX11_image_19 ?_
                                                                                                                              refine lv_iload_n hx hb dX11_image_22 rfl (lv_at hl 0 rfl) ?_
                                                                                                                              refine q_iald C h km3 (by unfold vp_in; decide) dX11_image_23 ?_
                                                                                                                              refine lv_topi (fun x_ e_ => ?_)
                                                                                                                              obtain rfl : 0 = x_ := e_.symm
                                                                                                                              refine q_iast C h km4 (by unfold vp_in; decide) dX11_image_24 (fun H locs h => ?_)
                                                                                                                              rw [upd0] at h
                                                                                                                              rw [hu_id km4] at h
                                                                                                                              refine lv_iinc (v := 62) (lv' := [(1, .int 62), (0, .ref (M 0))]) hx hb dX11_image_25 hl (k := 0) rfl (by decide) (by decide) rfl (fun ls hl => ?_)
                                                                                                                              refine lv_goto (tgt := 7) hx hb dX11_image_28 (by decide) ?_
                                                                                                                              refine lv_iload_n hx hb dX11_image_7 rfl (lv_at hl 0 rfl) ?_
                                                                                                                              refine lv_bipush (v := 81) hx hb dX11_image_8 (by decide) ?_
                                                                                                                              refine lv_icmp_ge (tgt := 31) hx hb dX11_image_10 (by decide) (fun c_630 => ?_) (fun c_630 => ?_)
                                                                                                                              · exact absurd c_630 (by decide)
                                                                                                                              · refine lv_aload_n hx hb dX11_image_13 rfl (lv_at hl 1 rfl) ?_
                                                                                                                                refine q_get C h km0 fl_X11_20 (v := .ref (M 4)) rfl dX11_image_14 ?_
                                                                                                                                refine lv_iload_n hx hb dX11_image_17 rfl (lv_at hl 0 rfl) ?_
                                                                                                                                refine lv_aload_n hx hb dX11_image_18 rfl (lv_at hl 1 rfl) ?_
                                                                                                                                refine q_get C h km0 fl_X11_17 (v := .ref (M 3)) rfl dX11_image_19 ?_
                                                                                                                                refine lv_iload_n hx hb dX11_image_22 rfl (lv_at hl 0 rfl) ?_
                                                                                                                                refine q_iald C h km3 (by unfold vp_in; decide) dX11_image_23 ?_
                                                                                                                                refine lv_topi (fun x_ e_ => ?_)
                                                                                                                                obtain rfl : 0 = x_ := e_.symm
                                                                                                                                refine q_iast C h km4 (by unfold vp_in; decide) dX11_image_24 (fun H locs h => ?_)
                                                                                                                                rw [upd0] at h
                                                                                                                                rw [hu_id km4] at h
                                                                                                                                refine lv_iinc (v := 63) (lv' := [(1, .int 63), (0, .ref (M 0))]) hx hb dX11_image_25 hl (k := 0) rfl (by decide) (by decide) rfl (fun ls hl => ?_)
                                                                                                                                refine lv_goto (tgt := 7) hx hb dX11_image_28 (by decide) ?_
                                                                                                                                refine lv_iload_n hx hb dX11_image_7 rfl (lv_at hl 0 rfl) ?_
                                                                                                                                refine lv_bipush (v := 81) hx hb dX11_image_8 (by decide) ?_
                                                                                                                                refine lv_icmp_ge (tgt := 31) hx hb dX11_image_10 (by decide) (fun c_632 => ?_) (fun c_632 => ?_)
                                                                                                                                · exact absurd c_632 (by decide)
                                                                                                                                · refine lv_aload_n hx hb dX11_image_13 rfl (lv_at hl 1 rfl) ?_
                                                                                                                                  refine q_get C h km0 fl_X11_20 (v := .ref (M 4)) rfl dX11_image_14 ?_
                                                                                                                                  refine lv_iload_n hx hb dX11_image_17 rfl (lv_at hl 0 rfl) ?_
                                                                                                                                  refine lv_aload_n hx hb dX11_image_18 rfl (lv_at hl 1 rfl) ?_
                                                                                                                                  refine q_get C h km0 fl_X11_17 (v := .ref (M 3)) rfl dX11_image_19 ?_
                                                                                                                                  refine lv_iload_n hx hb dX11_image_22 rfl (lv_at hl 0 rfl) ?_
                                                                                                                                  refine q_iald C h km3 (by unfold vp_in; decide) dX11_image_23 ?_
                                                                                                                                  refine lv_topi (fun x_ e_ => ?_)
                                                                                                                                  obtain rfl : 0 = x_ := e_.symm
                                                                                                                                  refine q_iast C h km4 (by unfold vp_in; decide) dX11_image_24 (fun H locs h => ?_)
                                                                                                                                  rw [upd0] at h
                                                                                                                                  rw [hu_id km4] at h
                                                                                                                                  refine lv_iinc (v := 64) (lv' := [(1, .int 64), (0, .ref (M 0))]) hx hb dX11_image_25 hl (k := 0) rfl (by decide) (by decide) rfl (fun ls hl => ?_)
                                                                                                                                  refine lv_goto (tgt := 7) hx hb dX11_image_28 (by decide) ?_
                                                                                                                                  refine lv_iload_n hx hb dX11_image_7 rfl (lv_at hl 0 rfl) ?_
                                                                                                                                  refine lv_bipush (v := 81) hx hb dX11_image_8 (by decide) ?_
                                                                                                                                  refine lv_icmp_ge (tgt := 31) hx hb dX11_image_10 (by decide) (fun c_634 => ?_) (fun c_634 => ?_)
                                                                                                                                  · exact absurd c_634 (by decide)
                                                                                                                                  · refine lv_aload_n hx hb dX11_image_13 rfl (lv_at hl 1 rfl) ?_
                                                                                                                                    refine q_get C h km0 fl_X11_20 (v := .ref (M 4)) rfl dX11_image_14 ?_
                                                                                                                                    refine lv_iload_n hx hb dX11_image_17 rfl (lv_at hl 0 rfl) ?_
                                                                                                                                    refine lv_aload_n hx hb dX11_image_18 rfl (lv_at hl 1 rfl) ?_
                                                                                                                                    refine q_get C h km0 fl_X11_17 (v := .ref (M 3)) rfl dX11_image_19 ?_
                                                                                                                                    refine lv_iload_n hx hb dX11_image_22 rfl (lv_at hl 0 rfl) ?_
                                                                                                                                    refine q_iald C h km3 (by unfold vp_in; decide) dX11_image_23 ?_
                                                                                                                                    refine lv_topi (fun x_ e_ => ?_)
                                                                                                                                    obtain rfl : 0 = x_ := e_.symm
                                                                                                                                    refine q_iast C h km4 (by unfold vp_in; decide) dX11_image_24 (fun H locs h => ?_)
                                                                                                                                    rw [upd0] at h
                                                                                                                                    rw [hu_id km4] at h
                                                                                                                                    refine lv_iinc (v := 65) (lv' := [(1, .int 65), (0, .ref (M 0))]) hx hb dX11_image_25 hl (k := 0) rfl (by decide) (by decide) rfl (fun ls hl => ?_)
                                                                                                                                    refine lv_goto (tgt := 7) hx hb dX11_image_28 (by decide) ?_
                                                                                                                                    refine lv_iload_n hx hb dX11_image_7 rfl (lv_at hl 0 rfl) ?_
                                                                                                                                    refine lv_bipush (v := 81) hx hb dX11_image_8 (by decide) ?_
                                                                                                                                    refine lv_icmp_ge (tgt := 31) hx hb dX11_image_10 (by decide) (fun c_636 => ?_) (fun c_636 => ?_)
                                                                                                                                    · exact absurd c_636 (by decide)
                                                                                                                                    · refine lv_aload_n hx hb dX11_image_13 rfl (lv_at hl 1 rfl) ?_
                                                                                                                                      refine q_get C h km0 fl_X11_20 (v := .ref (M 4)) rfl dX11_image_14 ?_
                                                                                                                                      refine lv_iload_n hx hb dX11_image_17 rfl (lv_at hl 0 rfl) ?_
                                                                                                                                      refine lv_aload_n hx hb dX11_image_18 rfl (lv_at hl 1 rfl) ?_
                                                                                                                                      refine q_get C h km0 fl_X11_17 (v := .ref (M 3)) rfl dX11_image_19 ?_
                                                                                                                                      refine lv_iload_n hx hb dX11_image_22 rfl (lv_at hl 0 rfl) ?_
                                                                                                                                      refine q_iald C h km3 (by unfold vp_in; decide) dX11_image_23 ?_
                                                                                                                                      refine lv_topi (fun x_ e_ => ?_)
                                                                                                                                      obtain rfl : 0 = x_ := e_.symm
                                                                                                                                      refine q_iast C h km4 (by unfold vp_in; decide) dX11_image_24 (fun H locs h => ?_)
                                                                                                                                      rw [upd0] at h
                                                                                                                                      rw [hu_id km4] at h
                                                                                                                                      refine lv_iinc (v := 66) (lv' := [(1, .int 66), (0, .ref (M 0))]) hx hb dX11_image_25 hl (k := 0) rfl (by decide) (by decide) rfl (fun ls hl => ?_)
                                                                                                                                      refine lv_goto (tgt := 7) hx hb dX11_image_28 (by decide) ?_
                                                                                                                                      refine lv_iload_n hx hb dX11_image_7 rfl (lv_at hl 0 rfl) ?_
                                                                                                                                      refine lv_bipush (v := 81) hx hb dX11_image_8 (by decide) ?_
                                                                                                                                      refine lv_icmp_ge (tgt := 31) hx hb dX11_image_10 (by decide) (fun c_638 => ?_) (fun c_638 => ?_)
                                                                                                                                      · exact absurd c_638 (by decide)
                                                                                                                                      · refine lv_aload_n hx hb dX11_image_13 rfl (lv_at hl 1 rfl) ?_
                                                                                                                                        refine q_get C h km0 fl_X11_20 (v := .ref (M 4)) rfl dX11_image_14 ?_
                                                                                                                                        refine lv_iload_n hx hb dX11_image_17 rfl (lv_at hl 0 rfl) ?_
                                                                                                                                        refine lv_aload_n hx hb dX11_image_18 rfl (lv_at hl 1 rfl) ?_
                                                                                                                                        refine q_get C h km0 fl_X11_17 (v := .ref (M 3)) rfl dX11_image_19 ?_
                                                                                                                                        refine lv_iload_n hx hb dX11_image_22 rfl (lv_at hl 0 rfl) ?_
                                                                                                                                        refine q_iald C h km3 (by unfold vp_in; decide) dX11_image_23 ?_
                                                                                                                                        refine lv_topi (fun x_ e_ => ?_)
                                                                                                                                        obtain rfl : 0 = x_ := e_.symm
                                                                                                                                        refine q_iast C h km4 (by unfold vp_in; decide) dX11_image_24 (fun H locs h => ?_)
                                                                                                                                        rw [upd0] at h
                                                                                                                                        rw [hu_id km4] at h
                                                                                                                                        refine lv_iinc (v := 67) (lv' := [(1, .int 67), (0, .ref (M 0))]) hx hb dX11_image_25 hl (k := 0) rfl (by decide) (by decide) rfl (fun ls hl => ?_)
                                                                                                                                        refine lv_goto (tgt := 7) hx hb dX11_image_28 (by decide) ?_
                                                                                                                                        refine lv_iload_n hx hb dX11_image_7 rfl (lv_at hl 0 rfl) ?_
                                                                                                                                        refine lv_bipush (v := 81) hx hb dX11_image_8 (by decide) ?_
                                                                                                                                        refine lv_icmp_ge (tgt := 31) hx hb dX11_image_10 (by decide) (fun c_640 => ?_) (fun c_640 => ?_)
                                                                                                                                        · exact absurd c_640 (by decide)
                                                                                                                                        · refine lv_aload_n hx hb dX11_image_13 rfl (lv_at hl 1 rfl) ?_
                                                                                                                                          refine q_get C h km0 fl_X11_20 (v := .ref (M 4)) rfl dX11_image_14 ?_
                                                                                                                                          refine lv_iload_n hx hb dX11_image_17 rfl (lv_at hl 0 rfl) ?_
                                                                                                                                          refine lv_aload_n hx hb dX11_image_18 rfl (lv_at hl 1 rfl) ?_
                                                                                                                                          refine q_get C h km0 fl_X11_17 (v := .ref (M 3)) rfl dX11_image_19 ?_
                                                                                                                                          refine lv_iload_n hx hb dX11_image_22 rfl (lv_at hl 0 rfl) ?_
                                                                                                                                          refine q_iald C h km3 (by unfold vp_in; decide) dX11_image_23 ?_
                                                                                                                                          refine lv_topi (fun x_ e_ => ?_)
                                                                                                                                          obtain rfl : 0 = x_ := e_.symm
                                                                                                                                          refine q_iast C h km4 (by unfold vp_in; decide) dX11_image_24 (fun H locs h => ?_)
                                                                                                                                          rw [upd0] at h
                                                                                                                                          rw [hu_id km4] at h
                                                                                                                                          refine lv_iinc (v := 68) (lv' := [(1, .int 68), (0, .ref (M 0))]) hx hb dX11_image_25 hl (k := 0) rfl (by decide) (by decide) rfl (fun ls hl => ?_)
                                                                                                                                          refine lv_goto (tgt := 7) hx hb dX11_image_28 (by decide) ?_
                                                                                                                                          refine lv_iload_n hx hb dX11_image_7 rfl (lv_at hl 0 rfl) ?_
                                                                                                                                          refine lv_bipush (v := 81) hx hb dX11_image_8 (by decide) ?_
                                                                                                                                          refine lv_icmp_ge (tgt := 31) hx hb dX11_image_10 (by decide) (fun c_642 => ?_) (fun c_642 => ?_)
                                                                                                                                          · exact absurd c_642 (by decide)
                                                                                                                                          · refine lv_aload_n hx hb dX11_image_13 rfl (lv_at hl 1 rfl) ?_
                                                                                                                                            refine q_get C h km0 fl_X11_20 (v := .ref (M 4)) rfl dX11_image_14 ?_
                                                                                                                                            refine lv_iload_n hx hb dX11_image_17 rfl (lv_at hl 0 rfl) ?_
                                                                                                                                            refine lv_aload_n hx hb dX11_image_18 rfl (lv_at hl 1 rfl) ?_
                                                                                                                                            refine q_get C h km0 fl_X11_17 (v := .ref (M 3)) rfl dX11_image_19 ?_
                                                                                                                                            refine lv_iload_n hx hb dX11_image_22 rfl (lv_at hl 0 rfl) ?_
                                                                                                                                            refine q_iald C h km3 (by unfold vp_in; decide) dX11_image_23 ?_
                                                                                                                                            refine lv_topi (fun x_ e_ => ?_)
                                                                                                                                            obtain rfl : 0 = x_ := e_.symm
                                                                                                                                            refine q_iast C h km4 (by unfold vp_in; decide) dX11_image_24 (fun H locs h => ?_)
                                                                                                                                            rw [upd0] at h
                                                                                                                                            rw [hu_id km4] at h
                                                                                                                                            refine lv_iinc (v := 69) (lv' := [(1, .int 69), (0, .ref (M 0))]) hx hb dX11_image_25 hl (k := 0) rfl (by decide) (by decide) rfl (fun ls hl => ?_)
                                                                                                                                            refine lv_goto (tgt := 7) hx hb dX11_image_28 (by decide) ?_
                                                                                                                                            refine lv_iload_n hx hb dX11_image_7 rfl (lv_at hl 0 rfl) ?_
                                                                                                                                            refine lv_bipush (v := 81) hx hb dX11_image_8 (by decide) ?_
                                                                                                                                            refine lv_icmp_ge (tgt := 31) hx hb dX11_image_10 (by decide) (fun c_644 => ?_) (fun c_644 => ?_)
                                                                                                                                            · exact absurd c_644 (by decide)
                                                                                                                                            · refine lv_aload_n hx hb dX11_image_13 rfl (lv_at hl 1 rfl) ?_
                                                                                                                                              refine q_get C h km0 fl_X11_20 (v := .ref (M 4)) rfl dX11_image_14 ?_
                                                                                                                                              refine lv_iload_n hx hb dX11_image_17 rfl (lv_at hl 0 rfl) ?_
                                                                                                                                              refine lv_aload_n hx hb dX11_image_18 rfl (lv_at hl 1 rfl) ?_
                                                                                                                                              refine q_get C h km0 fl_X11_17 (v := .ref (M 3)) rfl dX11_image_19 ?_
                                                                                                                                              refine lv_iload_n hx hb dX11_image_22 rfl (lv_at hl 0 rfl) ?_
                                                                                                                                              refine q_iald C h km3 (by unfold vp_in; decide) dX11_image_23 ?_
                                                                                                                                              refine lv_topi (fun x_ e_ => ?_)
                                                                                                                                              obtain rfl : 0 = x_ := e_.symm
                                                                                                                                              refine q_iast C h km4 (by unfold vp_in; decide) dX11_image_24 (fun H locs h => ?_)
                                                                                                                                              rw [upd0] at h
                                                                                                                                              rw [hu_id km4] at h
                                                                                                                                              refine lv_iinc (v := 70) (lv' := [(1, .int 70), (0, .ref (M 0))]) hx hb dX11_image_25 hl (k := 0) rfl (by decide) (by decide) rfl (fun ls hl => ?_)
                                                                                                                                              refine lv_goto (tgt := 7) hx hb dX11_image_28 (by decide) ?_
                                                                                                                                              refine lv_iload_n hx hb dX11_image_7 rfl (lv_at hl 0 rfl) ?_
                                                                                                                                              refine lv_bipush (v := 81) hx hb dX11_image_8 (by decide) ?_
                                                                                                                                              refine lv_icmp_ge (tgt := 31) hx hb dX11_image_10 (by decide) (fun c_646 => ?_) (fun c_646 => ?_)
                                                                                                                                              · exact absurd c_646 (by decide)
                                                                                                                                              · refine lv_aload_n hx hb dX11_image_13 rfl (lv_at hl 1 rfl) ?_
                                                                                                                                                refine q_get C h km0 fl_X11_20 (v := .ref (M 4)) rfl dX11_image_14 ?_
                                                                                                                                                refine lv_iload_n hx hb dX11_image_17 rfl (lv_at hl 0 rfl) ?_
                                                                                                                                                refine lv_aload_n hx hb dX11_image_18 rfl (lv_at hl 1 rfl) ?_
                                                                                                                                                refine q_get C h km0 fl_X11_17 (v := .ref (M 3)) rfl dX11_image_19 ?_
                                                                                                                                                refine lv_iload_n hx hb dX11_image_22 rfl (lv_at hl 0 rfl) ?_
                                                                                                                                                refine q_iald C h km3 (by unfold vp_in; decide) dX11_image_23 ?_
                                                                                                                                                refine lv_topi (fun x_ e_ => ?_)
                                                                                                                                                obtain rfl : 0 = x_ := e_.symm
                                                                                                                                                refine q_iast C h km4 (by unfold vp_in; decide) dX11_image_24 (fun H locs h => ?_)
                                                                                                                                                rw [upd0] at h
                                                                                                                                                rw [hu_id km4] at h
                                                                                                                                                refine lv_iinc (v := 71) (lv' := [(1, .int 71), (0, .ref (M 0))]) hx hb dX11_image_25 hl (k := 0) rfl (by decide) (by decide) rfl (fun ls hl => ?_)
                                                                                                                                                refine lv_goto (tgt := 7) hx hb dX11_image_28 (by decide) ?_
                                                                                                                                                refine lv_iload_n hx hb dX11_image_7 rfl (lv_at hl 0 rfl) ?_
                                                                                                                                                refine lv_bipush (v := 81) hx hb dX11_image_8 (by decide) ?_
                                                                                                                                                refine lv_icmp_ge (tgt := 31) hx hb dX11_image_10 (by decide) (fun c_648 => ?_) (fun c_648 => ?_)
                                                                                                                                                · exact absurd c_648 (by decide)
                                                                                                                                                · refine lv_aload_n hx hb dX11_image_13 rfl (lv_at hl 1 rfl) ?_
                                                                                                                                                  refine q_get C h km0 fl_X11_20 (v := .ref (M 4)) rfl dX11_image_14 ?_
                                                                                                                                                  refine lv_iload_n hx hb dX11_image_17 rfl (lv_at hl 0 rfl) ?_
                                                                                                                                                  refine lv_aload_n hx hb dX11_image_18 rfl (lv_at hl 1 rfl) ?_
                                                                                                                                                  refine q_get C h km0 fl_X11_17 (v := .ref (M 3)) rfl dX11_image_19 ?_
                                                                                                                                                  refine lv_iload_n hx hb dX11_image_22 rfl (lv_at hl 0 rfl) ?_
                                                                                                                                                  refine q_iald C h km3 (by unfold vp_in; decide) dX11_image_23 ?_
                                                                                                                                                  refine lv_topi (fun x_ e_ => ?_)
                                                                                                                                                  obtain rfl : 0 = x_ := e_.symm
                                                                                                                                                  refine q_iast C h km4 (by unfold vp_in; decide) dX11_image_24 (fun H locs h => ?_)
                                                                                                                                                  rw [upd0] at h
                                                                                                                                                  rw [hu_id km4] at h
                                                                                                                                                  refine lv_iinc (v := 72) (lv' := [(1, .int 72), (0, .ref (M 0))]) hx hb dX11_image_25 hl (k := 0) rfl (by decide) (by decide) rfl (fun ls hl => ?_)
                                                                                                                                                  refine lv_goto (tgt := 7) hx hb dX11_image_28 (by decide) ?_
                                                                                                                                                  refine lv_iload_n hx hb dX11_image_7 rfl (lv_at hl 0 rfl) ?_
                                                                                                                                                  refine lv_bipush (v := 81) hx hb dX11_image_8 (by decide) ?_
                                                                                                                                                  refine lv_icmp_ge (tgt := 31) hx hb dX11_image_10 (by decide) (fun c_650 => ?_) (fun c_650 => ?_)
                                                                                                                                                  · exact absurd c_650 (by decide)
                                                                                                                                                  · refine lv_aload_n hx hb dX11_image_13 rfl (lv_at hl 1 rfl) ?_
                                                                                                                                                    refine q_get C h km0 fl_X11_20 (v := .ref (M 4)) rfl dX11_image_14 ?_
                                                                                                                                                    refine lv_iload_n hx hb dX11_image_17 rfl (lv_at hl 0 rfl) ?_
                                                                                                                                                    refine lv_aload_n hx hb dX11_image_18 rfl (lv_at hl 1 rfl) ?_
                                                                                                                                                    refine q_get C h km0 fl_X11_17 (v := .ref (M 3)) rfl dX11_image_19 ?_
                                                                                                                                                    refine lv_iload_n hx hb dX11_image_22 rfl (lv_at hl 0 rfl) ?_
                                                                                                                                                    refine q_iald C h km3 (by unfold vp_in; decide) dX11_image_23 ?_
                                                                                                                                                    refine lv_topi (fun x_ e_ => ?_)
                                                                                                                                                    obtain rfl : 0 = x_ := e_.symm
                                                                                                                                                    refine q_iast C h km4 (by unfold vp_in; decide) dX11_image_24 (fun H locs h => ?_)
                                                                                                                                                    rw [upd0] at h
                                                                                                                                                    rw [hu_id km4] at h
                                                                                                                                                    refine lv_iinc (v := 73) (lv' := [(1, .int 73), (0, .ref (M 0))]) hx hb dX11_image_25 hl (k := 0) rfl (by decide) (by decide) rfl (fun ls hl => ?_)
                                                                                                                                                    refine lv_goto (tgt := 7) hx hb dX11_image_28 (by decide) ?_
                                                                                                                                                    refine lv_iload_n hx hb dX11_image_7 rfl (lv_at hl 0 rfl) ?_
                                                                                                                                                    refine lv_bipush (v := 81) hx hb dX11_image_8 (by decide) ?_
                                                                                                                                                    refine lv_icmp_ge (tgt := 31) hx hb dX11_image_10 (by decide) (fun c_652 => ?_) (fun c_652 => ?_)
                                                                                                                                                    · exact absurd c_652 (by decide)
                                                                                                                                                    · refine lv_aload_n hx hb dX11_image_13 rfl (lv_at hl 1 rfl) ?_
                                                                                                                                                      refine q_get C h km0 fl_X11_20 (v := .ref (M 4)) rfl dX11_image_14 ?_
                                                                                                                                                      refine lv_iload_n hx hb dX11_image_17 rfl (lv_at hl 0 rfl) ?_
                                                                                                                                                      refine lv_aload_n hx hb dX11_image_18 rfl (lv_at hl 1 rfl) ?_
                                                                                                                                                      refine q_get C h km0 fl_X11_17 (v := .ref (M 3)) rfl dX11_image_19 ?_
                                                                                                                                                      refine lv_iload_n hx hb dX11_image_22 rfl (lv_at hl 0 rfl) ?_
                                                                                                                                                      refine q_iald C h km3 (by unfold vp_in; decide) dX11_image_23 ?_
                                                                                                                                                      refine lv_topi (fun x_ e_ => ?_)
                                                                                                                                                      obtain rfl : 0 = x_ := e_.symm
                                                                                                                                                      refine q_iast C h km4 (by unfold vp_in; decide) dX11_image_24 (fun H locs h => ?_)
                                                                                                                                                      rw [upd0] at h
                                                                                                                                                      rw [hu_id km4] at h
                                                                                                                                                      refine lv_iinc (v := 74) (lv' := [(1, .int 74), (0, .ref (M 0))]) hx hb dX11_image_25 hl (k := 0) rfl (by decide) (by decide) rfl (fun ls hl => ?_)
                                                                                                                                                      refine lv_goto (tgt := 7) hx hb dX11_image_28 (by decide) ?_
                                                                                                                                                      refine lv_iload_n hx hb dX11_image_7 rfl (lv_at hl 0 rfl) ?_
                                                                                                                                                      refine lv_bipush (v := 81) hx hb dX11_image_8 (by decide) ?_
                                                                                                                                                      refine lv_icmp_ge (tgt := 31) hx hb dX11_image_10 (by decide) (fun c_654 => ?_) (fun c_654 => ?_)
                                                                                                                                                      · exact absurd c_654 (by decide)
                                                                                                                                                      · refine lv_aload_n hx hb dX11_image_13 rfl (lv_at hl 1 rfl) ?_
                                                                                                                                                        refine q_get C h km0 fl_X11_20 (v := .ref (M 4)) rfl dX11_image_14 ?_
                                                                                                                                                        refine lv_iload_n hx hb dX11_image_17 rfl (lv_at hl 0 rfl) ?_
                                                                                                                                                        refine lv_aload_n hx hb dX11_image_18 rfl (lv_at hl 1 rfl) ?_
                                                                                                                                                        refine q_get C h km0 fl_X11_17 (v := .ref (M 3)) rfl dX11_image_19 ?_
                                                                                                                                                        refine lv_iload_n hx hb dX11_image_22 rfl (lv_at hl 0 rfl) ?_
                                                                                                                                                        refine q_iald C h km3 (by unfold vp_in; decide) dX11_image_23 ?_
                                                                                                                                                        refine lv_topi (fun x_ e_ => ?_)
                                                                                                                                                        obtain rfl : 0 = x_ := e_.symm
                                                                                                                                                        refine q_iast C h km4 (by unfold vp_in; decide) dX11_image_24 (fun H locs h => ?_)
                                                                                                                                                        rw [upd0] at h
                                                                                                                                                        rw [hu_id km4] at h
                                                                                                                                                        refine lv_iinc (v := 75) (lv' := [(1, .int 75), (0, .ref (M 0))]) hx hb dX11_image_25 hl (k := 0) rfl (by decide) (by decide) rfl (fun ls hl => ?_)
                                                                                                                                                        refine lv_goto (tgt := 7) hx hb dX11_image_28 (by decide) ?_
                                                                                                                                                        refine lv_iload_n hx hb dX11_image_7 rfl (lv_at hl 0 rfl) ?_
                                                                                                                                                        refine lv_bipush (v := 81) hx hb dX11_image_8 (by decide) ?_
                                                                                                                                                        refine lv_icmp_ge (tgt := 31) hx hb dX11_image_10 (by decide) (fun c_656 => ?_) (fun c_656 => ?_)
                                                                                                                                                        · exact absurd c_656 (by decide)
                                                                                                                                                        · refine lv_aload_n hx hb dX11_image_13 rfl (lv_at hl 1 rfl) ?_
                                                                                                                                                          refine q_get C h km0 fl_X11_20 (v := .ref (M 4)) rfl dX11_image_14 ?_
                                                                                                                                                          refine lv_iload_n hx hb dX11_image_17 rfl (lv_at hl 0 rfl) ?_
                                                                                                                                                          refine lv_aload_n hx hb dX11_image_18 rfl (lv_at hl 1 rfl) ?_
                                                                                                                                                          refine q_get C h km0 fl_X11_17 (v := .ref (M 3)) rfl dX11_image_19 ?_
                                                                                                                                                          refine lv_iload_n hx hb dX11_image_22 rfl (lv_at hl 0 rfl) ?_
                                                                                                                                                          refine q_iald C h km3 (by unfold vp_in; decide) dX11_image_23 ?_
                                                                                                                                                          refine lv_topi (fun x_ e_ => ?_)
                                                                                                                                                          obtain rfl : 0 = x_ := e_.symm
                                                                                                                                                          refine q_iast C h km4 (by unfold vp_in; decide) dX11_image_24 (fun H locs h => ?_)
                                                                                                                                                          rw [upd0] at h
                                                                                                                                                          rw [hu_id km4] at h
                                                                                                                                                          refine lv_iinc (v := 76) (lv' := [(1, .int 76), (0, .ref (M 0))]) hx hb dX11_image_25 hl (k := 0) rfl (by decide) (by decide) rfl (fun ls hl => ?_)
                                                                                                                                                          refine lv_goto (tgt := 7) hx hb dX11_image_28 (by decide) ?_
                                                                                                                                                          refine lv_iload_n hx hb dX11_image_7 rfl (lv_at hl 0 rfl) ?_
                                                                                                                                                          refine lv_bipush (v := 81) hx hb dX11_image_8 (by decide) ?_
                                                                                                                                                          refine lv_icmp_ge (tgt := 31) hx hb dX11_image_10 (by decide) (fun c_658 => ?_) (fun c_658 => ?_)
                                                                                                                                                          · exact absurd c_658 (by decide)
                                                                                                                                                          · refine lv_aload_n hx hb dX11_image_13 rfl (lv_at hl 1 rfl) ?_
                                                                                                                                                            refine q_get C h km0 fl_X11_20 (v := .ref (M 4)) rfl dX11_image_14 ?_
                                                                                                                                                            refine lv_iload_n hx hb dX11_image_17 rfl (lv_at hl 0 rfl) ?_
                                                                                                                                                            refine lv_aload_n hx hb dX11_image_18 rfl (lv_at hl 1 rfl) ?_
                                                                                                                                                            refine q_get C h km0 fl_X11_17 (v := .ref (M 3)) rfl dX11_image_19 ?_
                                                                                                                                                            refine lv_iload_n hx hb dX11_image_22 rfl (lv_at hl 0 rfl) ?_
                                                                                                                                                            refine q_iald C h km3 (by unfold vp_in; decide) dX11_image_23 ?_
                                                                                                                                                            refine lv_topi (fun x_ e_ => ?_)
                                                                                                                                                            obtain rfl : 0 = x_ := e_.symm
                                                                                                                                                            refine q_iast C h km4 (by unfold vp_in; decide) dX11_image_24 (fun H locs h => ?_)
                                                                                                                                                            rw [upd0] at h
                                                                                                                                                            rw [hu_id km4] at h
                                                                                                                                                            refine lv_iinc (v := 77) (lv' := [(1, .int 77), (0, .ref (M 0))]) hx hb dX11_image_25 hl (k := 0) rfl (by decide) (by decide) rfl (fun ls hl => ?_)
                                                                                                                                                            refine lv_goto (tgt := 7) hx hb dX11_image_28 (by decide) ?_
                                                                                                                                                            refine lv_iload_n hx hb dX11_image_7 rfl (lv_at hl 0 rfl) ?_
                                                                                                                                                            refine lv_bipush (v := 81) hx hb dX11_image_8 (by decide) ?_
                                                                                                                                                            refine lv_icmp_ge (tgt := 31) hx hb dX11_image_10 (by decide) (fun c_660 => ?_) (fun c_660 => ?_)
                                                                                                                                                            · exact absurd c_660 (by decide)
                                                                                                                                                            · refine lv_aload_n hx hb dX11_image_13 rfl (lv_at hl 1 rfl) ?_
                                                                                                                                                              refine q_get C h km0 fl_X11_20 (v := .ref (M 4)) rfl dX11_image_14 ?_
                                                                                                                                                              refine lv_iload_n hx hb dX11_image_17 rfl (lv_at hl 0 rfl) ?_
                                                                                                                                                              refine lv_aload_n hx hb dX11_image_18 rfl (lv_at hl 1 rfl) ?_
                                                                                                                                                              refine q_get C h km0 fl_X11_17 (v := .ref (M 3)) rfl dX11_image_19 ?_
                                                                                                                                                              refine lv_iload_n hx hb dX11_image_22 rfl (lv_at hl 0 rfl) ?_
                                                                                                                                                              refine q_iald C h km3 (by unfold vp_in; decide) dX11_image_23 ?_
                                                                                                                                                              refine lv_topi (fun x_ e_ => ?_)
                                                                                                                                                              obtain rfl : 0 = x_ := e_.symm
                                                                                                                                                              refine q_iast C h km4 (by unfold vp_in; decide) dX11_image_24 (fun H locs h => ?_)
                                                                                                                                                              rw [upd0] at h
                                                                                                                                                              rw [hu_id km4] at h
                                                                                                                                                              refine lv_iinc (v := 78) (lv' := [(1, .int 78), (0, .ref (M 0))]) hx hb dX11_image_25 hl (k := 0) rfl (by decide) (by decide) rfl (fun ls hl => ?_)
                                                                                                                                                              refine lv_goto (tgt := 7) hx hb dX11_image_28 (by decide) ?_
                                                                                                                                                              refine lv_iload_n hx hb dX11_image_7 rfl (lv_at hl 0 rfl) ?_
                                                                                                                                                              refine lv_bipush (v := 81) hx hb dX11_image_8 (by decide) ?_
                                                                                                                                                              refine lv_icmp_ge (tgt := 31) hx hb dX11_image_10 (by decide) (fun c_662 => ?_) (fun c_662 => ?_)
                                                                                                                                                              · exact absurd c_662 (by decide)
                                                                                                                                                              · refine lv_aload_n hx hb dX11_image_13 rfl (lv_at hl 1 rfl) ?_
                                                                                                                                                                refine q_get C h km0 fl_X11_20 (v := .ref (M 4)) rfl dX11_image_14 ?_
                                                                                                                                                                refine lv_iload_n hx hb dX11_image_17 rfl (lv_at hl 0 rfl) ?_
                                                                                                                                                                refine lv_aload_n hx hb dX11_image_18 rfl (lv_at hl 1 rfl) ?_
                                                                                                                                                                refine q_get C h km0 fl_X11_17 (v := .ref (M 3)) rfl dX11_image_19 ?_
                                                                                                                                                                refine lv_iload_n hx hb dX11_image_22 rfl (lv_at hl 0 rfl) ?_
                                                                                                                                                                refine q_iald C h km3 (by unfold vp_in; decide) dX11_image_23 ?_
                                                                                                                                                                refine lv_topi (fun x_ e_ => ?_)
                                                                                                                                                                obtain rfl : 0 = x_ := e_.symm
                                                                                                                                                                refine q_iast C h km4 (by unfold vp_in; decide) dX11_image_24 (fun H locs h => ?_)
                                                                                                                                                                rw [upd0] at h
                                                                                                                                                                rw [hu_id km4] at h
                                                                                                                                                                refine lv_iinc (v := 79) (lv' := [(1, .int 79), (0, .ref (M 0))]) hx hb dX11_image_25 hl (k := 0) rfl (by decide) (by decide) rfl (fun ls hl => ?_)
                                                                                                                                                                refine lv_goto (tgt := 7) hx hb dX11_image_28 (by decide) ?_
                                                                                                                                                                refine lv_iload_n hx hb dX11_image_7 rfl (lv_at hl 0 rfl) ?_
                                                                                                                                                                refine lv_bipush (v := 81) hx hb dX11_image_8 (by decide) ?_
                                                                                                                                                                refine lv_icmp_ge (tgt := 31) hx hb dX11_image_10 (by decide) (fun c_664 => ?_) (fun c_664 => ?_)
                                                                                                                                                                · exact absurd c_664 (by decide)
                                                                                                                                                                · refine lv_aload_n hx hb dX11_image_13 rfl (lv_at hl 1 rfl) ?_
                                                                                                                                                                  refine q_get C h km0 fl_X11_20 (v := .ref (M 4)) rfl dX11_image_14 ?_
                                                                                                                                                                  refine lv_iload_n hx hb dX11_image_17 rfl (lv_at hl 0 rfl) ?_
                                                                                                                                                                  refine lv_aload_n hx hb dX11_image_18 rfl (lv_at hl 1 rfl) ?_
                                                                                                                                                                  refine q_get C h km0 fl_X11_17 (v := .ref (M 3)) rfl dX11_image_19 ?_
                                                                                                                                                                  refine lv_iload_n hx hb dX11_image_22 rfl (lv_at hl 0 rfl) ?_
                                                                                                                                                                  refine q_iald C h km3 (by unfold vp_in; decide) dX11_image_23 ?_
                                                                                                                                                                  refine lv_topi (fun x_ e_ => ?_)
                                                                                                                                                                  obtain rfl : 0 = x_ := e_.symm
                                                                                                                                                                  refine q_iast C h km4 (by unfold vp_in; decide) dX11_image_24 (fun H locs h => ?_)
                                                                                                                                                                  rw [upd0] at h
                                                                                                                                                                  rw [hu_id km4] at h
                                                                                                                                                                  refine lv_iinc (v := 80) (lv' := [(1, .int 80), (0, .ref (M 0))]) hx hb dX11_image_25 hl (k := 0) rfl (by decide) (by decide) rfl (fun ls hl => ?_)
                                                                                                                                                                  refine lv_goto (tgt := 7) hx hb dX11_image_28 (by decide) ?_
                                                                                                                                                                  refine lv_iload_n hx hb dX11_image_7 rfl (lv_at hl 0 rfl) ?_
                                                                                                                                                                  refine lv_bipush (v := 81) hx hb dX11_image_8 (by decide) ?_
                                                                                                                                                                  refine lv_icmp_ge (tgt := 31) hx hb dX11_image_10 (by decide) (fun c_666 => ?_) (fun c_666 => ?_)
                                                                                                                                                                  · exact absurd c_666 (by decide)
                                                                                                                                                                  · refine lv_aload_n hx hb dX11_image_13 rfl (lv_at hl 1 rfl) ?_
                                                                                                                                                                    refine q_get C h km0 fl_X11_20 (v := .ref (M 4)) rfl dX11_image_14 ?_
                                                                                                                                                                    refine lv_iload_n hx hb dX11_image_17 rfl (lv_at hl 0 rfl) ?_
                                                                                                                                                                    refine lv_aload_n hx hb dX11_image_18 rfl (lv_at hl 1 rfl) ?_
                                                                                                                                                                    refine q_get C h km0 fl_X11_17 (v := .ref (M 3)) rfl dX11_image_19 ?_
                                                                                                                                                                    refine lv_iload_n hx hb dX11_image_22 rfl (lv_at hl 0 rfl) ?_
                                                                                                                                                                    refine q_iald C h km3 (by unfold vp_in; decide) dX11_image_23 ?_
                                                                                                                                                                    refine lv_topi (fun x_ e_ => ?_)
                                                                                                                                                                    obtain rfl : 0 = x_ := e_.symm
                                                                                                                                                                    refine q_iast C h km4 (by unfold vp_in; decide) dX11_image_24 (fun H locs h => ?_)
                                                                                                                                                                    rw [upd0] at h
                                                                                                                                                                    rw [hu_id km4] at h
                                                                                                                                                                    refine lv_iinc (v := 81) (lv' := [(1, .int 81), (0, .ref (M 0))]) hx hb dX11_image_25 hl (k := 0) rfl (by decide) (by decide) rfl (fun ls hl => ?_)
                                                                                                                                                                    refine lv_goto (tgt := 7) hx hb dX11_image_28 (by decide) ?_
                                                                                                                                                                    refine lv_iload_n hx hb dX11_image_7 rfl (lv_at hl 0 rfl) ?_
                                                                                                                                                                    refine lv_bipush (v := 81) hx hb dX11_image_8 (by decide) ?_
                                                                                                                                                                    refine lv_icmp_ge (tgt := 31) hx hb dX11_image_10 (by decide) (fun c_668 => ?_) (fun c_668 => ?_)
                                                                                                                                                                    · refine lv_aload_n hx hb dX11_image_31 rfl (lv_at hl 1 rfl) ?_
                                                                                                                                                                      refine lv_iconst (v := 1) hx hb dX11_image_32 (by decide) ?_
                                                                                                                                                                      refine q_put C h km0 flw_X11_437 (Or.inr ⟨_, _, _, rfl, rfl⟩) (v := .int 1) rfl rfl (Nat.le_of_ble_eq_true rfl) dX11_image_33 (fun H locs h => ?_)
                                                                                                                                                                      have h : hw D b0 s.heap (hu f (M 0) (.inr (12, [.int 0, .ref (M 1), .int 0, .int 0, .int 0, .ref (M 2), .ref (M 3), .ref (M 4), .ref (M 5), .ref (M 6), .int 0, .int 1, .ref (M 7), .ref (M 8), .int 0, .ref (M 9), .ref (M 10), .ref (M 11), .long 0, .ref (M 12), .ref (M 13), .ref (M 14), .ref (M 15), .ref (M 16), .ref (M 17), .ref (M 18), .ref (M 19), .int 0, .int 0, .ref (M 20), .ref (M 21), .int 0]))) H locs := h
                                                                                                                                                                      generalize ef_669 : hu f (M 0) (.inr (12, [.int 0, .ref (M 1), .int 0, .int 0, .int 0, .ref (M 2), .ref (M 3), .ref (M 4), .ref (M 5), .ref (M 6), .int 0, .int 1, .ref (M 7), .ref (M 8), .int 0, .ref (M 9), .ref (M 10), .ref (M 11), .long 0, .ref (M 12), .ref (M 13), .ref (M 14), .ref (M 15), .ref (M 16), .ref (M 17), .ref (M 18), .ref (M 19), .int 0, .int 0, .ref (M 20), .ref (M 21), .int 0])) = f_669 at h
                                                                                                                                                                      have k_670 : f_669 (M 1) = some (.inl (G 0, 200, .inl (fun _ => 0))) := by rw [← ef_669]; exact hu_at km1 (hne (4, 12) (1, 200) km0 km1 rfl rfl (by decide))
                                                                                                                                                                      have k_671 : f_669 (M 2) = some (.inl (G 1, 10, .inl (fun _ => 0))) := by rw [← ef_669]; exact hu_at km2 (hne (4, 12) (1, 10) km0 km2 rfl rfl (by decide))
                                                                                                                                                                      have k_672 : f_669 (M 3) = some (.inl (G 1, 81, .inl (fun _ => 0))) := by rw [← ef_669]; exact hu_at km3 (hne (4, 12) (1, 81) km0 km3 rfl rfl (by decide))
                                                                                                                                                                      have k_673 : f_669 (M 4) = some (.inl (G 1, 81, .inl (fun _ => 0))) := by rw [← ef_669]; exact hu_at km4 (hne (4, 12) (1, 81) km0 km4 rfl rfl (by decide))
                                                                                                                                                                      have k_674 : f_669 (M 6) = some (.inl (G 1, 4, .inl (fun _ => 0))) := by rw [← ef_669]; exact hu_at km5 (hne (4, 12) (1, 4) km0 km5 rfl rfl (by decide))
                                                                                                                                                                      have k_675 : f_669 (M 0) = some (.inr (12, [.int 0, .ref (M 1), .int 0, .int 0, .int 0, .ref (M 2), .ref (M 3), .ref (M 4), .ref (M 5), .ref (M 6), .int 0, .int 1, .ref (M 7), .ref (M 8), .int 0, .ref (M 9), .ref (M 10), .ref (M 11), .long 0, .ref (M 12), .ref (M 13), .ref (M 14), .ref (M 15), .ref (M 16), .ref (M 17), .ref (M 18), .ref (M 19), .int 0, .int 0, .ref (M 20), .ref (M 21), .int 0])) := by rw [← ef_669]; exact hu_self _ _ _
                                                                                                                                                                      refine lv_aload_n hx hb dX11_image_36 rfl (lv_at hl 1 rfl) ?_
                                                                                                                                                                      refine q_get C h k_675 fl_X11_17 (v := .ref (M 3)) rfl dX11_image_37 ?_
                                                                                                                                                                      refine lv_bipush (v := 80) hx hb dX11_image_40 (by decide) ?_
                                                                                                                                                                      refine q_iald C h k_672 (by unfold vp_in; decide) dX11_image_42 ?_
                                                                                                                                                                      refine lv_topi (fun x_ e_ => ?_)
                                                                                                                                                                      obtain rfl : 0 = x_ := e_.symm
                                                                                                                                                                      exact q_iret C h hr (rfl) (Nat.le_of_ble_eq_true rfl) (Nat.le_of_ble_eq_true rfl) dX11_image_43
                                                                                                                                                                    · exact absurd c_668 (by decide)
set_option maxRecDepth 100000 in
set_option maxHeartbeats 4000000 in
theorem c_X11_end (l : Launch) (D : va_G) (G : Nat → Nat) (b0 : Nat) (f : hM) (M : Nat → Nat) (hM : mw G f M) (p0 : Int32) : mI l yX11_end cX11_end 2 (.boolean) { frames := 0, cells := 0, slots := 0, locals := 0 } D G b0 f [.ref (M 0), .int p0] (fun r f1 => (wi p0 0 0 : Int32) = r) := by
  refine met_of (own := RX11) (by decide) rfl (Nat.le_of_ble_eq_true rfl) ?_
  intro p e s m below meth c ls C hr hini hl h
  have hl : lv_has ls 2 [(0, .ref (M 0)), (1, .int p0)] := hl
  obtain ⟨hx, hb, hml, hown, hts, hE0, hlk⟩ := id C
  obtain ⟨km0, km1, km2, km3, km4, km5⟩ := hM
  refine lv_aload_n hx hb dX11_end_0 rfl (lv_at hl 0 rfl) ?_
  refine lv_iconst (v := 0) hx hb dX11_end_1 (by decide) ?_
  refine q_put C h km0 flw_X11_75 (Or.inr ⟨_, _, _, rfl, rfl⟩) (v := .int 0) rfl rfl (Nat.le_of_ble_eq_true rfl) dX11_end_2 (fun H locs h => ?_)
  have h : hw D b0 s.heap (hu f (M 0) (.inr (12, [.int 0, .ref (M 1), .int 0, .int 0, .int 0, .ref (M 2), .ref (M 3), .ref (M 4), .ref (M 5), .ref (M 6), .int 0, .int 0, .ref (M 7), .ref (M 8), .int 0, .ref (M 9), .ref (M 10), .ref (M 11), .long 0, .ref (M 12), .ref (M 13), .ref (M 14), .ref (M 15), .ref (M 16), .ref (M 17), .ref (M 18), .ref (M 19), .int 0, .int 0, .ref (M 20), .ref (M 21), .int 0]))) H locs := h
  rw [hu_id km0] at h
  refine lv_iload_n hx hb dX11_end_5 rfl (lv_at hl 1 rfl) ?_
  refine lv_if_lt (tgt := 17) hx hb dX11_end_6 (by decide) (fun c_676 => ?_) (fun c_676 => ?_)
  · refine lv_iconst (v := 0) hx hb dX11_end_17 (by decide) ?_
    exact q_zret C h hr (Or.inl rfl) (by simp [wi, c_676]) (Nat.le_of_ble_eq_true rfl) (Nat.le_of_ble_eq_true rfl) dX11_end_18
  · refine lv_iload_n hx hb dX11_end_9 rfl (lv_at hl 1 rfl) ?_
    refine lv_aload_n hx hb dX11_end_10 rfl (lv_at hl 0 rfl) ?_
    refine q_get C h km0 fl_X11_79 (v := .int 0) rfl dX11_end_11 ?_
    refine lv_icmp_le (tgt := 19) hx hb dX11_end_14 (by decide) (fun c_677 => ?_) (fun c_677 => ?_)
    · refine lv_aload_n hx hb dX11_end_19 rfl (lv_at hl 0 rfl) ?_
      refine lv_iload_n hx hb dX11_end_20 rfl (lv_at hl 1 rfl) ?_
      refine q_put C h km0 flw_X11_79 (Or.inr ⟨_, _, _, rfl, rfl⟩) (v := .int p0) rfl rfl (Nat.le_of_ble_eq_true rfl) dX11_end_21 (fun H locs h => ?_)
      have h : hw D b0 s.heap (hu f (M 0) (.inr (12, [.int 0, .ref (M 1), .int p0, .int 0, .int 0, .ref (M 2), .ref (M 3), .ref (M 4), .ref (M 5), .ref (M 6), .int 0, .int 0, .ref (M 7), .ref (M 8), .int 0, .ref (M 9), .ref (M 10), .ref (M 11), .long 0, .ref (M 12), .ref (M 13), .ref (M 14), .ref (M 15), .ref (M 16), .ref (M 17), .ref (M 18), .ref (M 19), .int 0, .int 0, .ref (M 20), .ref (M 21), .int 0]))) H locs := h
      generalize ef_678 : hu f (M 0) (.inr (12, [.int 0, .ref (M 1), .int p0, .int 0, .int 0, .ref (M 2), .ref (M 3), .ref (M 4), .ref (M 5), .ref (M 6), .int 0, .int 0, .ref (M 7), .ref (M 8), .int 0, .ref (M 9), .ref (M 10), .ref (M 11), .long 0, .ref (M 12), .ref (M 13), .ref (M 14), .ref (M 15), .ref (M 16), .ref (M 17), .ref (M 18), .ref (M 19), .int 0, .int 0, .ref (M 20), .ref (M 21), .int 0])) = f_678 at h
      have k_679 : f_678 (M 1) = some (.inl (G 0, 200, .inl (fun _ => 0))) := by rw [← ef_678]; exact hu_at km1 (hne (4, 12) (1, 200) km0 km1 rfl rfl (by decide))
      have k_680 : f_678 (M 2) = some (.inl (G 1, 10, .inl (fun _ => 0))) := by rw [← ef_678]; exact hu_at km2 (hne (4, 12) (1, 10) km0 km2 rfl rfl (by decide))
      have k_681 : f_678 (M 3) = some (.inl (G 1, 81, .inl (fun _ => 0))) := by rw [← ef_678]; exact hu_at km3 (hne (4, 12) (1, 81) km0 km3 rfl rfl (by decide))
      have k_682 : f_678 (M 4) = some (.inl (G 1, 81, .inl (fun _ => 0))) := by rw [← ef_678]; exact hu_at km4 (hne (4, 12) (1, 81) km0 km4 rfl rfl (by decide))
      have k_683 : f_678 (M 6) = some (.inl (G 1, 4, .inl (fun _ => 0))) := by rw [← ef_678]; exact hu_at km5 (hne (4, 12) (1, 4) km0 km5 rfl rfl (by decide))
      have k_684 : f_678 (M 0) = some (.inr (12, [.int 0, .ref (M 1), .int p0, .int 0, .int 0, .ref (M 2), .ref (M 3), .ref (M 4), .ref (M 5), .ref (M 6), .int 0, .int 0, .ref (M 7), .ref (M 8), .int 0, .ref (M 9), .ref (M 10), .ref (M 11), .long 0, .ref (M 12), .ref (M 13), .ref (M 14), .ref (M 15), .ref (M 16), .ref (M 17), .ref (M 18), .ref (M 19), .int 0, .int 0, .ref (M 20), .ref (M 21), .int 0])) := by rw [← ef_678]; exact hu_self _ _ _
      refine lv_iconst (v := 1) hx hb dX11_end_24 (by decide) ?_
      exact q_zret C h hr (Or.inr rfl) (by simp [wi, c_676, c_677]) (Nat.le_of_ble_eq_true rfl) (Nat.le_of_ble_eq_true rfl) dX11_end_25
    · refine lv_iconst (v := 0) hx hb dX11_end_17 (by decide) ?_
      exact q_zret C h hr (Or.inl rfl) (by simp [wi, c_676, c_677]) (Nat.le_of_ble_eq_true rfl) (Nat.le_of_ble_eq_true rfl) dX11_end_18
set_option maxRecDepth 100000 in
set_option maxHeartbeats 4000000 in
theorem c_X11_count (l : Launch) (D : va_G) (G : Nat → Nat) (b0 : Nat) (f : hM) (M : Nat → Nat) (hM : mw G f M) (p0 : Int32) : mI l yX11_count cX11_count 2 (.int) { frames := 0, cells := 0, slots := 0, locals := 0 } D G b0 f [.ref (M 0), .int p0] (fun r f1 => (Vcount p0 : Int32) = r) := by
  refine met_of (own := RX11) (by decide) rfl (Nat.le_of_ble_eq_true rfl) ?_
  intro p e s m below meth c ls C hr hini hl h
  have hl : lv_has ls 2 [(0, .ref (M 0)), (1, .int p0)] := hl
  obtain ⟨hx, hb, hml, hown, hts, hE0, hlk⟩ := id C
  obtain ⟨km0, km1, km2, km3, km4, km5⟩ := hM
  refine lv_aload_n hx hb dX11_count_0 rfl (lv_at hl 0 rfl) ?_
  refine lv_iconst (v := 0) hx hb dX11_count_1 (by decide) ?_
  refine q_put C h km0 flw_X11_75 (Or.inr ⟨_, _, _, rfl, rfl⟩) (v := .int 0) rfl rfl (Nat.le_of_ble_eq_true rfl) dX11_count_2 (fun H locs h => ?_)
  have h : hw D b0 s.heap (hu f (M 0) (.inr (12, [.int 0, .ref (M 1), .int 0, .int 0, .int 0, .ref (M 2), .ref (M 3), .ref (M 4), .ref (M 5), .ref (M 6), .int 0, .int 0, .ref (M 7), .ref (M 8), .int 0, .ref (M 9), .ref (M 10), .ref (M 11), .long 0, .ref (M 12), .ref (M 13), .ref (M 14), .ref (M 15), .ref (M 16), .ref (M 17), .ref (M 18), .ref (M 19), .int 0, .int 0, .ref (M 20), .ref (M 21), .int 0]))) H locs := h
  rw [hu_id km0] at h
  refine lv_iload_n hx hb dX11_count_5 rfl (lv_at hl 1 rfl) ?_
  refine lv_if_ne (tgt := 16) hx hb dX11_count_6 (by decide) (fun c_685 => ?_) (fun c_685 => ?_)
  · refine lv_iload_n hx hb dX11_count_16 rfl (lv_at hl 1 rfl) ?_
    refine lv_iconst (v := 1) hx hb dX11_count_17 (by decide) ?_
    refine lv_icmp_ne (tgt := 28) hx hb dX11_count_18 (by decide) (fun c_686 => ?_) (fun c_686 => ?_)
    · refine lv_iload_n hx hb dX11_count_28 rfl (lv_at hl 1 rfl) ?_
      refine lv_iconst (v := 2) hx hb dX11_count_29 (by decide) ?_
      refine lv_icmp_ne (tgt := 43) hx hb dX11_count_30 (by decide) (fun c_687 => ?_) (fun c_687 => ?_)
      · refine lv_iconst (v := -1) hx hb dX11_count_43 (by decide) ?_
        exact q_iret C h hr (by simp [Vcount, c_685, c_686, c_687]) (Nat.le_of_ble_eq_true rfl) (Nat.le_of_ble_eq_true rfl) dX11_count_44
      · refine lv_aload_n hx hb dX11_count_33 rfl (lv_at hl 0 rfl) ?_
        refine q_get C h km0 fl_X11_17 (v := .ref (M 3)) rfl dX11_count_34 ?_
        refine lv_bipush (v := 80) hx hb dX11_count_37 (by decide) ?_
        refine q_iald C h km3 (by unfold vp_in; decide) dX11_count_39 ?_
        refine lv_topi (fun x_ e_ => ?_)
        obtain rfl : 0 = x_ := e_.symm
        refine lv_goto (tgt := 44) hx hb dX11_count_40 (by decide) ?_
        exact q_iret C h hr (by simp [Vcount, c_685, c_686, c_687]) (Nat.le_of_ble_eq_true rfl) (Nat.le_of_ble_eq_true rfl) dX11_count_44
    · refine lv_aload_n hx hb dX11_count_21 rfl (lv_at hl 0 rfl) ?_
      refine q_get C h km0 fl_X11_155 (v := .int 0) rfl dX11_count_22 ?_
      refine lv_goto (tgt := 44) hx hb dX11_count_25 (by decide) ?_
      exact q_iret C h hr (by simp [Vcount, c_685, c_686]) (Nat.le_of_ble_eq_true rfl) (Nat.le_of_ble_eq_true rfl) dX11_count_44
  · refine lv_aload_n hx hb dX11_count_9 rfl (lv_at hl 0 rfl) ?_
    refine q_get C h km0 fl_X11_79 (v := .int 0) rfl dX11_count_10 ?_
    refine lv_goto (tgt := 44) hx hb dX11_count_13 (by decide) ?_
    exact q_iret C h hr (by simp [Vcount, c_685]) (Nat.le_of_ble_eq_true rfl) (Nat.le_of_ble_eq_true rfl) dX11_count_44
set_option maxRecDepth 100000 in
set_option maxHeartbeats 4000000 in
theorem c_X11_most (l : Launch) (D : va_G) (G : Nat → Nat) (b0 : Nat) (f : hM) (M : Nat → Nat) (hM : mw G f M) (p0 : Int32) : mI l yX11_most cX11_most 4 (.int) { frames := 1, cells := 0, slots := 0, locals := 24 } D G b0 f [.ref (M 0), .int p0] (fun r f1 => (Vmost p0 : Int32) = r) := by
  refine met_of (own := RX11) (by decide) rfl (Nat.le_of_ble_eq_true rfl) ?_
  intro p e s m below meth c ls C hr hini hl h
  have hl : lv_has ls 4 [(0, .ref (M 0)), (1, .int p0)] := hl
  obtain ⟨hx, hb, hml, hown, hts, hE0, hlk⟩ := id C
  obtain ⟨km0, km1, km2, km3, km4, km5⟩ := hM
  refine lv_aload_n hx hb dX11_most_0 rfl (lv_at hl 0 rfl) ?_
  refine lv_iconst (v := 0) hx hb dX11_most_1 (by decide) ?_
  refine q_put C h km0 flw_X11_75 (Or.inr ⟨_, _, _, rfl, rfl⟩) (v := .int 0) rfl rfl (Nat.le_of_ble_eq_true rfl) dX11_most_2 (fun H locs h => ?_)
  have h : hw D b0 s.heap (hu f (M 0) (.inr (12, [.int 0, .ref (M 1), .int 0, .int 0, .int 0, .ref (M 2), .ref (M 3), .ref (M 4), .ref (M 5), .ref (M 6), .int 0, .int 0, .ref (M 7), .ref (M 8), .int 0, .ref (M 9), .ref (M 10), .ref (M 11), .long 0, .ref (M 12), .ref (M 13), .ref (M 14), .ref (M 15), .ref (M 16), .ref (M 17), .ref (M 18), .ref (M 19), .int 0, .int 0, .ref (M 20), .ref (M 21), .int 0]))) H locs := h
  rw [hu_id km0] at h
  refine lv_iload_n hx hb dX11_most_5 rfl (lv_at hl 1 rfl) ?_
  refine lv_iconst (v := 3) hx hb dX11_most_6 (by decide) ?_
  refine lv_icmp_ne (tgt := 15) hx hb dX11_most_7 (by decide) (fun c_688 => ?_) (fun c_688 => ?_)
  · refine lv_aload_n hx hb dX11_most_15 rfl (lv_at hl 0 rfl) ?_
    refine q_get C h km0 fl_X11_17 (v := .ref (M 3)) rfl dX11_most_16 ?_
    refine lv_bipush (v := 80) hx hb dX11_most_19 (by decide) ?_
    refine q_iald C h km3 (by unfold vp_in; decide) dX11_most_21 ?_
    refine lv_topi (fun x_ e_ => ?_)
    obtain rfl : 0 = x_ := e_.symm
    refine lv_if_eq (tgt := 37) hx hb dX11_most_22 (by decide) (fun c_689 => ?_) (fun c_689 => ?_)
    · refine lv_iconst (v := -1) hx hb dX11_most_37 (by decide) ?_
      exact q_iret C h hr (by simp [Vmost, c_688, c_689]) (Nat.le_of_ble_eq_true rfl) (Nat.le_of_ble_eq_true rfl) dX11_most_38
    · exact absurd c_689 (by decide)
  · refine lv_aload_n hx hb dX11_most_10 rfl (lv_at hl 0 rfl) ?_
    refine k_i (r_V C h hl (As := []) (rest := []) (c_X11_unlike l D G b0 f M ⟨km0, km1, km2, km3, km4, km5⟩ ) km0 (Cn := RX11) (T := TX11) (N := 32) rfl rfl mk_X11_unlike w_2042 w_2044 w_91 w_2045 ⟨Nat.le_of_ble_eq_true rfl, Nat.le_of_ble_eq_true rfl⟩ rfl (Nat.le_of_ble_eq_true rfl) ⟨Nat.le_of_ble_eq_true rfl, Nat.le_of_ble_eq_true rfl⟩ rfl dX11_most_11) h (fun r_690 f_691 H locs p_692 h => ?_)
    obtain ⟨e_, rfl⟩ := p_692
    subst e_
    exact q_iret C h hr (by simp [Vmost, c_688]) (Nat.le_of_ble_eq_true rfl) (Nat.le_of_ble_eq_true rfl) dX11_most_14
set_option maxRecDepth 100000 in
set_option maxHeartbeats 4000000 in
theorem c_X11_status (l : Launch) (D : va_G) (G : Nat → Nat) (b0 : Nat) (f : hM) (M : Nat → Nat) (hM : mw G f M) (p0 : Int32) : mI l yX11_status cX11_status 2 (.int) { frames := 1, cells := 0, slots := 0, locals := 25 } D G b0 f [.ref (M 0), .int p0] (fun r f1 => (Vstatus p0 : Int32) = r) := by
  refine met_of (own := RX11) (by decide) rfl (Nat.le_of_ble_eq_true rfl) ?_
  intro p e s m below meth c ls C hr hini hl h
  have hl : lv_has ls 2 [(0, .ref (M 0)), (1, .int p0)] := hl
  obtain ⟨hx, hb, hml, hown, hts, hE0, hlk⟩ := id C
  obtain ⟨km0, km1, km2, km3, km4, km5⟩ := hM
  refine lv_aload_n hx hb dX11_status_0 rfl (lv_at hl 0 rfl) ?_
  refine lv_iconst (v := 0) hx hb dX11_status_1 (by decide) ?_
  refine q_put C h km0 flw_X11_75 (Or.inr ⟨_, _, _, rfl, rfl⟩) (v := .int 0) rfl rfl (Nat.le_of_ble_eq_true rfl) dX11_status_2 (fun H locs h => ?_)
  have h : hw D b0 s.heap (hu f (M 0) (.inr (12, [.int 0, .ref (M 1), .int 0, .int 0, .int 0, .ref (M 2), .ref (M 3), .ref (M 4), .ref (M 5), .ref (M 6), .int 0, .int 0, .ref (M 7), .ref (M 8), .int 0, .ref (M 9), .ref (M 10), .ref (M 11), .long 0, .ref (M 12), .ref (M 13), .ref (M 14), .ref (M 15), .ref (M 16), .ref (M 17), .ref (M 18), .ref (M 19), .int 0, .int 0, .ref (M 20), .ref (M 21), .int 0]))) H locs := h
  rw [hu_id km0] at h
  refine lv_iload_n hx hb dX11_status_5 rfl (lv_at hl 1 rfl) ?_
  refine lv_i2l (v := Int32.toInt64 p0) hx hb dX11_status_6 rfl ?_
  refine lv_lconst (v := 0) hx hb dX11_status_7 (by decide) ?_
  refine lv_ldc2 (v := 3) hx hb hown (hts _ w_1944) dX11_status_8 ?_
  refine k_i (r_S C h hl (As := [.long (Int32.toInt64 p0), .long 0, .long 3]) (rest := []) (c_X11_isIn l D G b0 f  (Int32.toInt64 p0) 0 3) mk_X11_isIn w_1628 w_1629 w_1630 ⟨Nat.le_of_ble_eq_true rfl, Nat.le_of_ble_eq_true rfl⟩ rfl (Nat.le_of_ble_eq_true rfl) ⟨Nat.le_of_ble_eq_true rfl, Nat.le_of_ble_eq_true rfl⟩ rfl dX11_status_11) h (fun r_693 f_694 H locs p_695 h => ?_)
  obtain ⟨e_, rfl⟩ := p_695
  subst e_
  refine lv_if_eq (tgt := 26) hx hb dX11_status_14 (by decide) (fun c_696 => ?_) (fun c_696 => ?_)
  · refine lv_iconst (v := -1) hx hb dX11_status_26 (by decide) ?_
    exact q_iret C h hr (Vstatus_no c_696) (Nat.le_of_ble_eq_true rfl) (Nat.le_of_ble_eq_true rfl) dX11_status_27
  · refine lv_aload_n hx hb dX11_status_17 rfl (lv_at hl 0 rfl) ?_
    refine q_get C h km0 fl_X11_26 (v := .ref (M 6)) rfl dX11_status_18 ?_
    refine lv_iload_n hx hb dX11_status_21 rfl (lv_at hl 1 rfl) ?_
    refine q_iald C h km5 (vp_wl c_696) dX11_status_22 ?_
    refine lv_topi (fun x_ e_ => ?_)
    obtain rfl : 0 = x_ := e_.symm
    refine lv_goto (tgt := 27) hx hb dX11_status_23 (by decide) ?_
    exact q_iret C h hr (Vstatus_yes c_696) (Nat.le_of_ble_eq_true rfl) (Nat.le_of_ble_eq_true rfl) dX11_status_27
