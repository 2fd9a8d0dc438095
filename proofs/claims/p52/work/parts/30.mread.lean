theorem dX11_here_0 : decode cX11_here 0 = .ok (.aload_n 0, 1) := by decide +kernel
theorem dX11_here_1 : decode cX11_here 1 = .ok (.getfield 90, 3) := by decide +kernel
theorem w_1436 : Cond.fieldLink "QuarterWalksModel" 90 "QuarterWalksModel" "at" "I" ∈ wAll := wIn 1436 (by decide +kernel) (by decide +kernel)
theorem fl_X11_90 : fl RX11 90 12 3 := ⟨RX11, TX11, 32, rfl, inA_X11, by decide, w_1436⟩
theorem dX11_here_4 : decode cX11_here 4 = .ok (.aload_n 0, 1) := by decide +kernel
theorem dX11_here_5 : decode cX11_here 5 = .ok (.getfield 79, 3) := by decide +kernel
theorem dX11_here_8 : decode cX11_here 8 = .ok (.if_icmp .ge 19, 3) := by decide +kernel
theorem dX11_here_27 : decode cX11_here 27 = .ok (.iconst (-1), 1) := by decide +kernel
theorem dX11_here_11 : decode cX11_here 11 = .ok (.aload_n 0, 1) := by decide +kernel
theorem dX11_here_12 : decode cX11_here 12 = .ok (.getfield 9, 3) := by decide +kernel
theorem dX11_here_15 : decode cX11_here 15 = .ok (.aload_n 0, 1) := by decide +kernel
theorem dX11_here_16 : decode cX11_here 16 = .ok (.getfield 90, 3) := by decide +kernel
theorem dX11_here_19 : decode cX11_here 19 = .ok (.baload, 1) := by decide +kernel
theorem dX11_here_20 : decode cX11_here 20 = .ok (.sipush 255, 3) := by decide +kernel
theorem dX11_here_23 : decode cX11_here 23 = .ok (.iand, 1) := by decide +kernel
theorem dX11_here_24 : decode cX11_here 24 = .ok (.goto 4, 3) := by decide +kernel
theorem dX11_here_28 : decode cX11_here 28 = .ok (.ireturn, 1) := by decide +kernel
theorem dX11_look_0 : decode cX11_look 0 = .ok (.aload_n 0, 1) := by decide +kernel
theorem dX11_look_1 : decode cX11_look 1 = .ok (.invokevirtual 93, 3) := by decide +kernel
theorem w_1561 : Cond.methodLink "QuarterWalksModel" 93 yX11_here ∈ wAll := wIn 1561 (by decide +kernel) (by decide +kernel)
theorem w_41 : Cond.selects yX11_here.cls yX11_here yX11_here ∈ wAll := wIn 41 (by decide +kernel) (by decide +kernel)
theorem mk_X11_here : mk yX11_here 0 := ⟨by decide +kernel, w_110⟩
theorem w_1563 : Cond.instanceMethod yX11_here ∈ wAll := wIn 1563 (by decide +kernel) (by decide +kernel)
theorem w_1564 : Cond.code yX11_here cX11_here 1 (some .int) ∈ wAll := wIn 1564 (by decide +kernel) (by decide +kernel)
theorem dX11_look_4 : decode cX11_look 4 = .ok (.bipush 32, 2) := by decide +kernel
theorem dX11_look_6 : decode cX11_look 6 = .ok (.if_icmp .ne 16, 3) := by decide +kernel
theorem dX11_look_22 : decode cX11_look 22 = .ok (.aload_n 0, 1) := by decide +kernel
theorem dX11_look_23 : decode cX11_look 23 = .ok (.invokevirtual 93, 3) := by decide +kernel
theorem dX11_look_9 : decode cX11_look 9 = .ok (.aload_n 0, 1) := by decide +kernel
theorem dX11_look_10 : decode cX11_look 10 = .ok (.dup, 1) := by decide +kernel
theorem dX11_look_11 : decode cX11_look 11 = .ok (.getfield 90, 3) := by decide +kernel
theorem dX11_look_14 : decode cX11_look 14 = .ok (.iconst 1, 1) := by decide +kernel
theorem dX11_look_15 : decode cX11_look 15 = .ok (.iadd, 1) := by decide +kernel
theorem dX11_look_16 : decode cX11_look 16 = .ok (.putfield 90, 3) := by decide +kernel
theorem flw_X11_90 : flw RX11 90 12 3 (.int) := ⟨RX11, TX11, 32, tyX11, rfl, inA_X11, by decide, w_1436, tyX11_ok, nmX11, by decide +kernel, Or.inl rfl⟩
theorem dX11_look_19 : decode cX11_look 19 = .ok (.goto (-19), 3) := by decide +kernel
theorem dX11_look_26 : decode cX11_look 26 = .ok (.ireturn, 1) := by decide +kernel
theorem dX11_fails_0 : decode cX11_fails 0 = .ok (.aload_n 0, 1) := by decide +kernel
theorem dX11_fails_1 : decode cX11_fails 1 = .ok (.getfield 97, 3) := by decide +kernel
theorem w_1437 : Cond.fieldLink "QuarterWalksModel" 97 "QuarterWalksModel" "fault" "I" ∈ wAll := wIn 1437 (by decide +kernel) (by decide +kernel)
theorem fl_X11_97 : fl RX11 97 12 4 := ⟨RX11, TX11, 32, rfl, inA_X11, by decide, w_1437⟩
theorem dX11_fails_4 : decode cX11_fails 4 = .ok (.iconst (-1), 1) := by decide +kernel
theorem dX11_fails_5 : decode cX11_fails 5 = .ok (.if_icmp .ne 8, 3) := by decide +kernel
theorem dX11_fails_8 : decode cX11_fails 8 = .ok (.aload_n 0, 1) := by decide +kernel
theorem dX11_fails_9 : decode cX11_fails 9 = .ok (.iload_n 1, 1) := by decide +kernel
theorem dX11_fails_10 : decode cX11_fails 10 = .ok (.putfield 97, 3) := by decide +kernel
theorem flw_X11_97 : flw RX11 97 12 4 (.int) := ⟨RX11, TX11, 32, tyX11, rfl, inA_X11, by decide, w_1437, tyX11_ok, nmX11, by decide +kernel, Or.inl rfl⟩
theorem dX11_fails_13 : decode cX11_fails 13 = .ok (.return_, 1) := by decide +kernel
theorem dX11_isDigit_0 : decode cX11_isDigit 0 = .ok (.aload_n 0, 1) := by decide +kernel
theorem dX11_isDigit_1 : decode cX11_isDigit 1 = .ok (.invokevirtual 100, 3) := by decide +kernel
theorem w_1557 : Cond.methodLink "QuarterWalksModel" 100 yX11_look ∈ wAll := wIn 1557 (by decide +kernel) (by decide +kernel)
theorem w_40 : Cond.selects yX11_look.cls yX11_look yX11_look ∈ wAll := wIn 40 (by decide +kernel) (by decide +kernel)
theorem mk_X11_look : mk yX11_look 0 := ⟨by decide +kernel, w_110⟩
theorem w_1559 : Cond.instanceMethod yX11_look ∈ wAll := wIn 1559 (by decide +kernel) (by decide +kernel)
theorem w_1560 : Cond.code yX11_look cX11_look 1 (some .int) ∈ wAll := wIn 1560 (by decide +kernel) (by decide +kernel)
theorem dX11_isDigit_4 : decode cX11_isDigit 4 = .ok (.istore_n 1, 1) := by decide +kernel
theorem dX11_isDigit_5 : decode cX11_isDigit 5 = .ok (.iload_n 1, 1) := by decide +kernel
theorem dX11_isDigit_6 : decode cX11_isDigit 6 = .ok (.bipush 48, 2) := by decide +kernel
theorem dX11_isDigit_8 : decode cX11_isDigit 8 = .ok (.if_icmp .lt 13, 3) := by decide +kernel
theorem dX11_isDigit_21 : decode cX11_isDigit 21 = .ok (.iconst 0, 1) := by decide +kernel
theorem dX11_isDigit_11 : decode cX11_isDigit 11 = .ok (.iload_n 1, 1) := by decide +kernel
theorem dX11_isDigit_12 : decode cX11_isDigit 12 = .ok (.bipush 57, 2) := by decide +kernel
theorem dX11_isDigit_14 : decode cX11_isDigit 14 = .ok (.if_icmp .gt 7, 3) := by decide +kernel
theorem dX11_isDigit_17 : decode cX11_isDigit 17 = .ok (.iconst 1, 1) := by decide +kernel
theorem dX11_isDigit_18 : decode cX11_isDigit 18 = .ok (.goto 4, 3) := by decide +kernel
theorem dX11_isDigit_22 : decode cX11_isDigit 22 = .ok (.ireturn, 1) := by decide +kernel
theorem dX11_digit_0 : decode cX11_digit 0 = .ok (.aload_n 0, 1) := by decide +kernel
theorem dX11_digit_1 : decode cX11_digit 1 = .ok (.invokevirtual 100, 3) := by decide +kernel
theorem dX11_digit_4 : decode cX11_digit 4 = .ok (.istore_n 2, 1) := by decide +kernel
theorem dX11_digit_5 : decode cX11_digit 5 = .ok (.aload_n 0, 1) := by decide +kernel
theorem dX11_digit_6 : decode cX11_digit 6 = .ok (.getfield 90, 3) := by decide +kernel
theorem dX11_digit_9 : decode cX11_digit 9 = .ok (.istore_n 3, 1) := by decide +kernel
theorem dX11_digit_10 : decode cX11_digit 10 = .ok (.aload_n 0, 1) := by decide +kernel
theorem dX11_digit_11 : decode cX11_digit 11 = .ok (.invokevirtual 93, 3) := by decide +kernel
theorem dX11_digit_14 : decode cX11_digit 14 = .ok (.bipush 48, 2) := by decide +kernel
theorem dX11_digit_16 : decode cX11_digit 16 = .ok (.if_icmp .lt 25, 3) := by decide +kernel
theorem dX11_digit_41 : decode cX11_digit 41 = .ok (.aload_n 0, 1) := by decide +kernel
theorem dX11_digit_42 : decode cX11_digit 42 = .ok (.getfield 90, 3) := by decide +kernel
theorem dX11_digit_45 : decode cX11_digit 45 = .ok (.iload_n 3, 1) := by decide +kernel
theorem dX11_digit_46 : decode cX11_digit 46 = .ok (.isub, 1) := by decide +kernel
theorem dX11_digit_47 : decode cX11_digit 47 = .ok (.iconst 1, 1) := by decide +kernel
theorem dX11_digit_48 : decode cX11_digit 48 = .ok (.if_icmp .ne 15, 3) := by decide +kernel
theorem dX11_digit_63 : decode cX11_digit 63 = .ok (.iconst (-1), 1) := by decide +kernel
theorem dX11_digit_64 : decode cX11_digit 64 = .ok (.istore 4, 2) := by decide +kernel
theorem dX11_digit_66 : decode cX11_digit 66 = .ok (.iload 4, 2) := by decide +kernel
theorem dX11_digit_68 : decode cX11_digit 68 = .ok (.iload_n 1, 1) := by decide +kernel
theorem dX11_digit_69 : decode cX11_digit 69 = .ok (.if_icmp .ge 8, 3) := by decide +kernel
theorem dX11_digit_72 : decode cX11_digit 72 = .ok (.aload_n 0, 1) := by decide +kernel
theorem dX11_digit_73 : decode cX11_digit 73 = .ok (.iload_n 3, 1) := by decide +kernel
theorem dX11_digit_74 : decode cX11_digit 74 = .ok (.invokevirtual 111, 3) := by decide +kernel
theorem w_1583 : Cond.methodLink "QuarterWalksModel" 111 yX11_fails ∈ wAll := wIn 1583 (by decide +kernel) (by decide +kernel)
theorem w_44 : Cond.selects yX11_fails.cls yX11_fails yX11_fails ∈ wAll := wIn 44 (by decide +kernel) (by decide +kernel)
theorem mk_X11_fails : mk yX11_fails 1 := ⟨by decide +kernel, w_110⟩
theorem w_1585 : Cond.instanceMethod yX11_fails ∈ wAll := wIn 1585 (by decide +kernel) (by decide +kernel)
theorem w_1586 : Cond.code yX11_fails cX11_fails 2 none ∈ wAll := wIn 1586 (by decide +kernel) (by decide +kernel)
theorem dX11_digit_77 : decode cX11_digit 77 = .ok (.iload 4, 2) := by decide +kernel
theorem dX11_digit_51 : decode cX11_digit 51 = .ok (.aload_n 0, 1) := by decide +kernel
theorem dX11_digit_52 : decode cX11_digit 52 = .ok (.getfield 9, 3) := by decide +kernel
theorem dX11_digit_55 : decode cX11_digit 55 = .ok (.iload_n 3, 1) := by decide +kernel
theorem dX11_digit_56 : decode cX11_digit 56 = .ok (.baload, 1) := by decide +kernel
theorem dX11_digit_57 : decode cX11_digit 57 = .ok (.bipush 48, 2) := by decide +kernel
theorem dX11_digit_59 : decode cX11_digit 59 = .ok (.isub, 1) := by decide +kernel
theorem dX11_digit_60 : decode cX11_digit 60 = .ok (.goto 4, 3) := by decide +kernel
theorem dX11_digit_19 : decode cX11_digit 19 = .ok (.aload_n 0, 1) := by decide +kernel
theorem dX11_digit_20 : decode cX11_digit 20 = .ok (.invokevirtual 93, 3) := by decide +kernel
theorem dX11_digit_23 : decode cX11_digit 23 = .ok (.bipush 57, 2) := by decide +kernel
theorem dX11_digit_25 : decode cX11_digit 25 = .ok (.if_icmp .gt 16, 3) := by decide +kernel
theorem dX11_digit_28 : decode cX11_digit 28 = .ok (.aload_n 0, 1) := by decide +kernel
theorem dX11_digit_29 : decode cX11_digit 29 = .ok (.dup, 1) := by decide +kernel
theorem dX11_digit_30 : decode cX11_digit 30 = .ok (.getfield 90, 3) := by decide +kernel
theorem dX11_digit_33 : decode cX11_digit 33 = .ok (.iconst 1, 1) := by decide +kernel
theorem dX11_digit_34 : decode cX11_digit 34 = .ok (.iadd, 1) := by decide +kernel
theorem dX11_digit_35 : decode cX11_digit 35 = .ok (.putfield 90, 3) := by decide +kernel
theorem dX11_digit_38 : decode cX11_digit 38 = .ok (.goto (-28), 3) := by decide +kernel
theorem dX11_digit_79 : decode cX11_digit 79 = .ok (.ireturn, 1) := by decide +kernel
theorem dX11_word_0 : decode cX11_word 0 = .ok (.aload_n 0, 1) := by decide +kernel
theorem dX11_word_1 : decode cX11_word 1 = .ok (.invokevirtual 100, 3) := by decide +kernel
theorem dX11_word_4 : decode cX11_word 4 = .ok (.istore_n 2, 1) := by decide +kernel
theorem dX11_word_5 : decode cX11_word 5 = .ok (.iconst 0, 1) := by decide +kernel
theorem dX11_word_6 : decode cX11_word 6 = .ok (.istore_n 3, 1) := by decide +kernel
theorem dX11_word_7 : decode cX11_word 7 = .ok (.iload_n 3, 1) := by decide +kernel
theorem dX11_word_8 : decode cX11_word 8 = .ok (.aload_n 1, 1) := by decide +kernel
theorem dX11_word_9 : decode cX11_word 9 = .ok (.invokevirtual 103, 3) := by decide +kernel
theorem w_1253 : Cond.selects yJ0_length_8abf5.cls yJ0_length_8abf5 yJ0_length_8abf5 ∈ wAll := wIn 1253 (by decide +kernel) (by decide +kernel)
theorem mk_J0_length_8abf5 : mk yJ0_length_8abf5 0 := ⟨by decide +kernel, w_108⟩
theorem w_1574 : Cond.methodLink "QuarterWalksModel" 103 yJ0_length_8abf5 ∈ wAll := wIn 1574 (by decide +kernel) (by decide +kernel)
theorem w_1252 : Cond.instanceMethod yJ0_length_8abf5 ∈ wAll := wIn 1252 (by decide +kernel) (by decide +kernel)
theorem w_1254 : Cond.code yJ0_length_8abf5 cJ0_length_8abf5 1 (some .int) ∈ wAll := wIn 1254 (by decide +kernel) (by decide +kernel)
theorem dX11_word_12 : decode cX11_word 12 = .ok (.if_icmp .ge 43, 3) := by decide +kernel
theorem dX11_word_15 : decode cX11_word 15 = .ok (.aload_n 0, 1) := by decide +kernel
theorem dX11_word_16 : decode cX11_word 16 = .ok (.getfield 90, 3) := by decide +kernel
theorem dX11_word_19 : decode cX11_word 19 = .ok (.iload_n 3, 1) := by decide +kernel
theorem dX11_word_20 : decode cX11_word 20 = .ok (.iadd, 1) := by decide +kernel
theorem dX11_word_21 : decode cX11_word 21 = .ok (.aload_n 0, 1) := by decide +kernel
theorem dX11_word_22 : decode cX11_word 22 = .ok (.getfield 79, 3) := by decide +kernel
theorem dX11_word_25 : decode cX11_word 25 = .ok (.if_icmp .ge 22, 3) := by decide +kernel
theorem dX11_word_47 : decode cX11_word 47 = .ok (.iconst 0, 1) := by decide +kernel
theorem dX11_word_28 : decode cX11_word 28 = .ok (.aload_n 0, 1) := by decide +kernel
theorem dX11_word_29 : decode cX11_word 29 = .ok (.getfield 9, 3) := by decide +kernel
theorem dX11_word_32 : decode cX11_word 32 = .ok (.aload_n 0, 1) := by decide +kernel
theorem dX11_word_33 : decode cX11_word 33 = .ok (.getfield 90, 3) := by decide +kernel
theorem dX11_word_36 : decode cX11_word 36 = .ok (.iload_n 3, 1) := by decide +kernel
theorem dX11_word_37 : decode cX11_word 37 = .ok (.iadd, 1) := by decide +kernel
theorem dX11_word_38 : decode cX11_word 38 = .ok (.baload, 1) := by decide +kernel
theorem dX11_word_39 : decode cX11_word 39 = .ok (.aload_n 1, 1) := by decide +kernel
theorem dX11_word_40 : decode cX11_word 40 = .ok (.iload_n 3, 1) := by decide +kernel
theorem dX11_word_41 : decode cX11_word 41 = .ok (.invokevirtual 107, 3) := by decide +kernel
theorem w_1575 : Cond.methodLink "QuarterWalksModel" 107 yJ0_charAt_5068e ∈ wAll := wIn 1575 (by decide +kernel) (by decide +kernel)
theorem dX11_word_44 : decode cX11_word 44 = .ok (.if_icmp .eq 5, 3) := by decide +kernel
theorem dX11_word_49 : decode cX11_word 49 = .ok (.iinc 3 1, 3) := by decide +kernel
theorem dX11_word_52 : decode cX11_word 52 = .ok (.goto (-45), 3) := by decide +kernel
theorem dX11_word_55 : decode cX11_word 55 = .ok (.aload_n 0, 1) := by decide +kernel
theorem dX11_word_56 : decode cX11_word 56 = .ok (.getfield 90, 3) := by decide +kernel
theorem dX11_word_59 : decode cX11_word 59 = .ok (.aload_n 1, 1) := by decide +kernel
theorem dX11_word_60 : decode cX11_word 60 = .ok (.invokevirtual 103, 3) := by decide +kernel
theorem dX11_word_63 : decode cX11_word 63 = .ok (.iadd, 1) := by decide +kernel
theorem dX11_word_64 : decode cX11_word 64 = .ok (.istore_n 3, 1) := by decide +kernel
theorem dX11_word_65 : decode cX11_word 65 = .ok (.iload_n 3, 1) := by decide +kernel
theorem dX11_word_66 : decode cX11_word 66 = .ok (.aload_n 0, 1) := by decide +kernel
theorem dX11_word_67 : decode cX11_word 67 = .ok (.getfield 79, 3) := by decide +kernel
theorem dX11_word_70 : decode cX11_word 70 = .ok (.if_icmp .ge 27, 3) := by decide +kernel
theorem dX11_word_97 : decode cX11_word 97 = .ok (.aload_n 0, 1) := by decide +kernel
theorem dX11_word_98 : decode cX11_word 98 = .ok (.iload_n 3, 1) := by decide +kernel
theorem dX11_word_99 : decode cX11_word 99 = .ok (.putfield 90, 3) := by decide +kernel
theorem dX11_word_102 : decode cX11_word 102 = .ok (.iconst 1, 1) := by decide +kernel
theorem dX11_word_73 : decode cX11_word 73 = .ok (.aload_n 0, 1) := by decide +kernel
theorem dX11_word_74 : decode cX11_word 74 = .ok (.getfield 9, 3) := by decide +kernel
theorem dX11_word_77 : decode cX11_word 77 = .ok (.iload_n 3, 1) := by decide +kernel
theorem dX11_word_78 : decode cX11_word 78 = .ok (.baload, 1) := by decide +kernel
theorem dX11_word_79 : decode cX11_word 79 = .ok (.bipush 97, 2) := by decide +kernel
theorem dX11_word_81 : decode cX11_word 81 = .ok (.if_icmp .lt 16, 3) := by decide +kernel
theorem dX11_word_84 : decode cX11_word 84 = .ok (.aload_n 0, 1) := by decide +kernel
theorem dX11_word_85 : decode cX11_word 85 = .ok (.getfield 9, 3) := by decide +kernel
theorem dX11_word_88 : decode cX11_word 88 = .ok (.iload_n 3, 1) := by decide +kernel
theorem dX11_word_89 : decode cX11_word 89 = .ok (.baload, 1) := by decide +kernel
theorem dX11_word_90 : decode cX11_word 90 = .ok (.bipush 122, 2) := by decide +kernel
theorem dX11_word_92 : decode cX11_word 92 = .ok (.if_icmp .gt 5, 3) := by decide +kernel
theorem dX11_word_95 : decode cX11_word 95 = .ok (.iconst 0, 1) := by decide +kernel
theorem dX11_word_48 : decode cX11_word 48 = .ok (.ireturn, 1) := by decide +kernel
theorem dX11_word_103 : decode cX11_word 103 = .ok (.ireturn, 1) := by decide +kernel
theorem dX11_word_96 : decode cX11_word 96 = .ok (.ireturn, 1) := by decide +kernel
theorem dX11_stepHere_0 : decode cX11_stepHere 0 = .ok (.aload_n 0, 1) := by decide +kernel
theorem dX11_stepHere_1 : decode cX11_stepHere 1 = .ok (.ldc 114, 2) := by decide +kernel
theorem dX11_stepHere_3 : decode cX11_stepHere 3 = .ok (.invokevirtual 116, 3) := by decide +kernel
theorem w_1570 : Cond.methodLink "QuarterWalksModel" 116 yX11_word ∈ wAll := wIn 1570 (by decide +kernel) (by decide +kernel)
theorem w_43 : Cond.selects yX11_word.cls yX11_word yX11_word ∈ wAll := wIn 43 (by decide +kernel) (by decide +kernel)
theorem mk_X11_word : mk yX11_word 1 := ⟨by decide +kernel, w_110⟩
theorem w_1572 : Cond.instanceMethod yX11_word ∈ wAll := wIn 1572 (by decide +kernel) (by decide +kernel)
theorem w_1573 : Cond.code yX11_word cX11_word 4 (some .boolean) ∈ wAll := wIn 1573 (by decide +kernel) (by decide +kernel)
theorem dX11_stepHere_6 : decode cX11_stepHere 6 = .ok (.ifCond .eq 5, 3) := by decide +kernel
theorem dX11_stepHere_11 : decode cX11_stepHere 11 = .ok (.aload_n 0, 1) := by decide +kernel
theorem dX11_stepHere_12 : decode cX11_stepHere 12 = .ok (.ldc 120, 2) := by decide +kernel
theorem dX11_stepHere_14 : decode cX11_stepHere 14 = .ok (.invokevirtual 116, 3) := by decide +kernel
theorem dX11_stepHere_17 : decode cX11_stepHere 17 = .ok (.ifCond .eq 5, 3) := by decide +kernel
theorem dX11_stepHere_22 : decode cX11_stepHere 22 = .ok (.aload_n 0, 1) := by decide +kernel
theorem dX11_stepHere_23 : decode cX11_stepHere 23 = .ok (.ldc 122, 2) := by decide +kernel
theorem dX11_stepHere_25 : decode cX11_stepHere 25 = .ok (.invokevirtual 116, 3) := by decide +kernel
theorem dX11_stepHere_28 : decode cX11_stepHere 28 = .ok (.ifCond .eq 5, 3) := by decide +kernel
theorem dX11_stepHere_33 : decode cX11_stepHere 33 = .ok (.aload_n 0, 1) := by decide +kernel
theorem dX11_stepHere_34 : decode cX11_stepHere 34 = .ok (.ldc 124, 2) := by decide +kernel
theorem dX11_stepHere_36 : decode cX11_stepHere 36 = .ok (.invokevirtual 116, 3) := by decide +kernel
theorem dX11_stepHere_39 : decode cX11_stepHere 39 = .ok (.ifCond .eq 5, 3) := by decide +kernel
theorem dX11_stepHere_44 : decode cX11_stepHere 44 = .ok (.aload_n 0, 1) := by decide +kernel
theorem dX11_stepHere_45 : decode cX11_stepHere 45 = .ok (.ldc 126, 2) := by decide +kernel
theorem dX11_stepHere_47 : decode cX11_stepHere 47 = .ok (.invokevirtual 116, 3) := by decide +kernel
theorem dX11_stepHere_50 : decode cX11_stepHere 50 = .ok (.ifCond .eq 5, 3) := by decide +kernel
theorem dX11_stepHere_55 : decode cX11_stepHere 55 = .ok (.aload_n 0, 1) := by decide +kernel
theorem dX11_stepHere_56 : decode cX11_stepHere 56 = .ok (.ldc 128, 2) := by decide +kernel
theorem dX11_stepHere_58 : decode cX11_stepHere 58 = .ok (.invokevirtual 116, 3) := by decide +kernel
theorem dX11_stepHere_61 : decode cX11_stepHere 61 = .ok (.ifCond .eq 5, 3) := by decide +kernel
theorem dX11_stepHere_66 : decode cX11_stepHere 66 = .ok (.aload_n 0, 1) := by decide +kernel
theorem dX11_stepHere_67 : decode cX11_stepHere 67 = .ok (.ldc 130, 2) := by decide +kernel
theorem dX11_stepHere_69 : decode cX11_stepHere 69 = .ok (.invokevirtual 116, 3) := by decide +kernel
theorem dX11_stepHere_72 : decode cX11_stepHere 72 = .ok (.ifCond .eq 6, 3) := by decide +kernel
theorem dX11_stepHere_78 : decode cX11_stepHere 78 = .ok (.aload_n 0, 1) := by decide +kernel
theorem dX11_stepHere_79 : decode cX11_stepHere 79 = .ok (.ldc 132, 2) := by decide +kernel
theorem dX11_stepHere_81 : decode cX11_stepHere 81 = .ok (.invokevirtual 116, 3) := by decide +kernel
theorem dX11_stepHere_84 : decode cX11_stepHere 84 = .ok (.ifCond .eq 8, 3) := by decide +kernel
theorem dX11_stepHere_92 : decode cX11_stepHere 92 = .ok (.iconst (-1), 1) := by decide +kernel
theorem dX11_stepHere_87 : decode cX11_stepHere 87 = .ok (.bipush 7, 2) := by decide +kernel
theorem dX11_stepHere_89 : decode cX11_stepHere 89 = .ok (.goto 4, 3) := by decide +kernel
theorem dX11_stepHere_75 : decode cX11_stepHere 75 = .ok (.bipush 6, 2) := by decide +kernel
theorem dX11_stepHere_64 : decode cX11_stepHere 64 = .ok (.iconst 5, 1) := by decide +kernel
theorem dX11_stepHere_53 : decode cX11_stepHere 53 = .ok (.iconst 4, 1) := by decide +kernel
theorem dX11_stepHere_42 : decode cX11_stepHere 42 = .ok (.iconst 3, 1) := by decide +kernel
theorem dX11_stepHere_31 : decode cX11_stepHere 31 = .ok (.iconst 2, 1) := by decide +kernel
theorem dX11_stepHere_20 : decode cX11_stepHere 20 = .ok (.iconst 1, 1) := by decide +kernel
theorem dX11_stepHere_9 : decode cX11_stepHere 9 = .ok (.iconst 0, 1) := by decide +kernel
theorem dX11_stepHere_93 : decode cX11_stepHere 93 = .ok (.ireturn, 1) := by decide +kernel
theorem dX11_stepHere_77 : decode cX11_stepHere 77 = .ok (.ireturn, 1) := by decide +kernel
theorem dX11_stepHere_65 : decode cX11_stepHere 65 = .ok (.ireturn, 1) := by decide +kernel
theorem dX11_stepHere_54 : decode cX11_stepHere 54 = .ok (.ireturn, 1) := by decide +kernel
theorem dX11_stepHere_43 : decode cX11_stepHere 43 = .ok (.ireturn, 1) := by decide +kernel
theorem dX11_stepHere_32 : decode cX11_stepHere 32 = .ok (.ireturn, 1) := by decide +kernel
theorem dX11_stepHere_21 : decode cX11_stepHere 21 = .ok (.ireturn, 1) := by decide +kernel
theorem dX11_stepHere_10 : decode cX11_stepHere 10 = .ok (.ireturn, 1) := by decide +kernel
abbrev rm_s_X11_hereX : Room := { frames := 0, cells := 0, slots := 0, locals := 0 }
set_option maxRecDepth 100000 in
set_option maxHeartbeats 4000000 in
theorem s_X11_hereX (l : Launch) (D : va_G) (G : Nat → Nat) (b0 : Nat) (τ : Nat → Nat) (f : hM) (t : TI G 9 τ f) (u0 : Nat) (hu0 : τ u0 = 60) (ln : Int32) (hln : iv ln 0 200) (k_u0_2 : atp f u0 (fd 2 (.int ln))) (aa : Int32) (haa : iv aa 0 200) (k_u0_3 : atp f u0 (fd 3 (.int aa))) (tq : Nat) (htq : τ tq = 61) (k_u0_1 : atp f u0 (fd 1 (.ref tq))) (rt : Nat → Int32) (hRtq : atp f tq (eqc (.inl (G 0, 200, .inl rt)))) (B : Nat → Int) (hB : ∀ k : Nat, (k : Int) < ln.toInt → (rt k).toInt = sg (B k) ∧ 0 ≤ B k ∧ B k ≤ 255)  : mI l yX11_here cX11_here 1 (.int) rm_s_X11_hereX D G b0 f [.ref u0] (fun r f1 => iv r (-1) 255 ∧ TI G 9 τ f1 ∧ Fr [] τ f f1 ∧ (((((aa.toInt.toNat : Nat) : Int) < ln.toInt → r.toInt = B (aa.toInt.toNat)) ∧ (ln.toInt ≤ ((aa.toInt.toNat : Nat) : Int) → r.toInt = -1)))) := by
  refine met2 (own := RX11) (by decide) rfl (Nat.le_of_ble_eq_true rfl) ?_
  intro p e s m args below meth c ls Q hQ C hr hini hl h
  have hl : lv_has ls 1 [(0, .ref u0)] := hl
  obtain ⟨hx, hb, hml, hown, hts, hE0, hlk⟩ := id C
  have o := Fr.rf [] τ f
  refine lv_aload_n hx hb dX11_here_0 rfl (lv_at hl 0 rfl) ?_
  refine t_getfd C h t hu0 (by decide) wf_60 (v := .int aa) k_u0_3 fl_X11_90 dX11_here_1 ?_
  refine lv_aload_n hx hb dX11_here_4 rfl (lv_at hl 0 rfl) ?_
  refine t_getfd C h t hu0 (by decide) wf_60 (v := .int ln) k_u0_2 fl_X11_79 dX11_here_5 ?_
  refine lv_icmp_ge (tgt := 27) hx hb dX11_here_8 (by decide) (fun c1 => ?_) (fun c1 => ?_)
  · have c2 : ln.toInt ≤ aa.toInt := Int32.le_iff_toInt_le.mp c1
    refine lv_iconst (v := -1) hx hb dX11_here_27 (by decide) ?_
    exact u_iret C h hr hQ (⟨⟨by decide, by decide⟩, t, o, (by have n_ : (-1 : Int32).toInt = -1 := rfl; omega)⟩) (Nat.le_of_ble_eq_true rfl) (Nat.le_of_ble_eq_true rfl) dX11_here_28
  · have c3 : aa.toInt < ln.toInt := Int32.lt_iff_toInt_lt.mp (iv_nle c1)
    have i4 : iv aa 0 199 := iv_Ll c3 haa hln (by decide)
    have i5 : iv ln 1 200 := iv_Lr c3 haa hln (by decide)
    refine lv_aload_n hx hb dX11_here_11 rfl (lv_at hl 0 rfl) ?_
    refine t_getfd C h t hu0 (by decide) wf_60 (v := .ref tq) k_u0_1 fl_X11_9 dX11_here_12 ?_
    refine lv_aload_n hx hb dX11_here_15 rfl (lv_at hl 0 rfl) ?_
    refine t_getfd C h t hu0 (by decide) wf_60 (v := .int aa) k_u0_3 fl_X11_90 dX11_here_16 ?_
    refine e_bald C h t htq (by decide) wf_61 hRtq (iv_in i4 (by decide)) dX11_here_19 (fun z6 ez6 iz6 => ?_)
    have mz6 := congrArg Int32.toInt ez6
    refine lv_sipush (v := 255) hx hb dX11_here_20 (by decide) ?_
    refine lv_iand hx hb dX11_here_23 (i_top (iv_and (k := 255) rfl (by decide)) (fun z7 ez7 iz7 => ?_))
    refine lv_goto (tgt := 28) hx hb dX11_here_24 (by decide) ?_
    exact u_iret C h hr hQ (⟨(iv_w iz7 (by decide)), t, o, (by
        have h_ := hB aa.toInt.toNat (by omega)
        have e_ : z7.toInt = z6.toInt % 256 := by rw [ez7]; exact and255 z6
        have s_ := sg_mod h_.2
        rw [← h_.1, ← mz6] at s_
        omega)⟩) (Nat.le_of_ble_eq_true rfl) (Nat.le_of_ble_eq_true rfl) dX11_here_28
abbrev rm_s_X11_lookX : Room := { frames := 1, cells := 0, slots := 0, locals := 20 }
set_option maxRecDepth 100000 in
set_option maxHeartbeats 4000000 in
theorem s_X11_lookX (l : Launch) (D : va_G) (G : Nat → Nat) (b0 : Nat) (τ : Nat → Nat) (f : hM) (t : TI G 9 τ f) (u0 : Nat) (hu0 : τ u0 = 60) (ln : Int32) (hln : iv ln 0 200) (k_u0_2 : atp f u0 (fd 2 (.int ln))) (aa : Int32) (haa : iv aa 0 200) (k_u0_3 : atp f u0 (fd 3 (.int aa))) (tq : Nat) (htq : τ tq = 61) (k_u0_1 : atp f u0 (fd 1 (.ref tq))) (rt : Nat → Int32) (hRtq : atp f tq (eqc (.inl (G 0, 200, .inl rt)))) (B : Nat → Int) (hB : ∀ k : Nat, (k : Int) < ln.toInt → (rt k).toInt = sg (B k) ∧ 0 ≤ B k ∧ B k ≤ 255)  : mI l yX11_look cX11_look 1 (.int) rm_s_X11_lookX D G b0 f [.ref u0] (fun r f1 => iv r (-1) 255 ∧ TI G 9 τ f1 ∧ Fr [60, 60004] τ f f1 ∧ ((((((rn 32 32 B ln.toInt.toNat aa.toInt.toNat) : Nat) : Int) < ln.toInt → r.toInt = B ((rn 32 32 B ln.toInt.toNat aa.toInt.toNat))) ∧ (ln.toInt ≤ (((rn 32 32 B ln.toInt.toNat aa.toInt.toNat) : Nat) : Int) → r.toInt = -1))) ∧ (∃ aa1 : Int32, atp f1 u0 (fd 3 (.int aa1)) ∧ iv aa1 0 200 ∧ aa1.toInt = (((rn 32 32 B ln.toInt.toNat aa.toInt.toNat) : Nat) : Int))) := by
  refine met2 (own := RX11) (by decide) rfl (Nat.le_of_ble_eq_true rfl) ?_
  intro p e s m args below meth c ls Q hQ C hr hini hl h
  have hl : lv_has ls 1 [(0, .ref u0)] := hl
  obtain ⟨hx, hb, hml, hown, hts, hE0, hlk⟩ := id C
  have o := Fr.rf [60, 60004] τ f
  have L0 : ∀ (n0 : Nat) (ls : Array Slot) (f_0 : hM) (H : Heap) (locs : List Loc) (g0_u0_3 : Int32), 200 - g0_u0_3.toInt < (n0 : Int) → lv_has ls 1 [(0, .ref u0)] → hw D b0 s.heap f_0 H locs → TI G 9 τ f_0 → Fr [60, 60004] τ f f_0 → iv g0_u0_3 0 200 → atp f_0 u0 (fd 2 (.int ln)) → atp f_0 u0 (fd 3 (.int g0_u0_3)) → atp f_0 u0 (fd 1 (.ref tq)) → atp f_0 tq (eqc (.inl (G 0, 200, .inl rt))) → ((rn 32 32 B ln.toInt.toNat (Int.toNat (g0_u0_3.toInt))) = (rn 32 32 B ln.toInt.toNat aa.toInt.toNat)) → W p l e rm_s_X11_lookX s m args below meth c H locs 0 0 Q (F0 m 0 ls []) := by
    intro n0
    induction n0 with
    | zero => intro ls f_0 H locs g0_u0_3 hm0 hl h t_0 o_0 ig0_u0_3 k0_u0_2 k0_u0_3 k0_u0_1 k0_tq_R hv0_0; exact absurd hm0 (by omega)
    | succ n0 ih0 =>
      intro ls f_0 H locs g0_u0_3 hm0 hl h t_0 o_0 ig0_u0_3 k0_u0_2 k0_u0_3 k0_u0_1 k0_tq_R hv0_0
      refine lv_aload_n hx hb dX11_look_0 rfl (lv_at hl 0 rfl) ?_
      obtain ⟨_, r1⟩ := t_rec t_0 hu0 (by decide) wf_60
      refine k_i (r_V C h hl (As := []) (rest := []) (s_X11_hereX l D G b0 τ f_0 t_0 u0 hu0 ln hln k0_u0_2 g0_u0_3 ig0_u0_3 k0_u0_3 tq htq k0_u0_1 rt k0_tq_R B hB) r1 (Cn := RX11) (T := TX11) (N := 32) rfl rfl mk_X11_here w_1561 w_1563 w_41 w_1564 ⟨Nat.le_of_ble_eq_true rfl, Nat.le_of_ble_eq_true rfl⟩ rfl (Nat.le_of_ble_eq_true rfl) ⟨Nat.le_of_ble_eq_true rfl, Nat.le_of_ble_eq_true rfl⟩ rfl dX11_look_1) h (fun r2 f3 H locs p4 h => ?_)
      obtain ⟨ir2, tf3, ogf3, x0r2⟩ := p4
      have egf3 := Fr.nil2 ogf3
      subst egf3
      refine lv_bipush (v := 32) hx hb dX11_look_4 (by decide) ?_
      refine lv_icmp_ne (tgt := 22) hx hb dX11_look_6 (by decide) (fun c5 => ?_) (fun c5 => ?_)
      · have c6 : r2.toInt ≠ 32 := fun z_ => c5 (Int32.toInt_inj.mp z_)
        refine lv_aload_n hx hb dX11_look_22 rfl (lv_at hl 0 rfl) ?_
        obtain ⟨_, r9⟩ := t_rec t_0 hu0 (by decide) wf_60
        refine k_i (r_V C h hl (As := []) (rest := []) (s_X11_hereX l D G b0 τ f_0 t_0 u0 hu0 ln hln k0_u0_2 g0_u0_3 ig0_u0_3 k0_u0_3 tq htq k0_u0_1 rt k0_tq_R B hB) r9 (Cn := RX11) (T := TX11) (N := 32) rfl rfl mk_X11_here w_1561 w_1563 w_41 w_1564 ⟨Nat.le_of_ble_eq_true rfl, Nat.le_of_ble_eq_true rfl⟩ rfl (Nat.le_of_ble_eq_true rfl) ⟨Nat.le_of_ble_eq_true rfl, Nat.le_of_ble_eq_true rfl⟩ rfl dX11_look_23) h (fun r10 f11 H locs p12 h => ?_)
        obtain ⟨ir10, tf11, ogf11, x0r10⟩ := p12
        have egf11 := Fr.nil2 ogf11
        subst egf11
        exact u_iret C h hr hQ (⟨ir10, t_0, o_0, (by rw [← hv0_0, rn_e (by omega)]; omega), ⟨g0_u0_3, k0_u0_3, ig0_u0_3, (by rw [← hv0_0, rn_e (by omega)]; omega)⟩⟩) (Nat.le_of_ble_eq_true rfl) (Nat.le_of_ble_eq_true rfl) dX11_look_26
      · have c7 : r2.toInt = 32 := congrArg Int32.toInt c5
        have i8 : iv r2 32 32 := iv_Q c7 ir2 (iv_k (x := 32) (k := 32) rfl) (by decide)
        refine lv_aload_n hx hb dX11_look_9 rfl (lv_at hl 0 rfl) ?_
        refine lv_dup hx hb dX11_look_10 rfl ?_
        refine t_getfd C h t_0 hu0 (by decide) wf_60 (v := .int g0_u0_3) k0_u0_3 fl_X11_90 dX11_look_11 ?_
        refine lv_iconst (v := 1) hx hb dX11_look_14 (by decide) ?_
        refine i_addk hx hb dX11_look_15 ig0_u0_3 (k := 1) rfl (lo := 1) (hi := 201) (by decide) (fun z13 ez13 mz13 iz13 => ?_)
        refine t_put C h t_0 o_0 hu0 (by decide) (by decide) (by decide) wf_60 fw_60 (k := 3) rfl flw_X11_90 (Or.inr ⟨_, _, _, rfl, rfl⟩) (v := .int z13) rfl rfl ⟨_, rfl, (show iv z13 0 200 from by omega)⟩ dX11_look_16 (fun f14 H locs h tf14 of14 hq ha_ hn_ hk_ => ?_)
        have k15 := hk_ 2 _ (by decide) k0_u0_2
        have k17 := hk_ 1 _ (by decide) k0_u0_1
        have k18 := atp.tg k0_tq_R hq htq (by decide)
        have k19 := ha_
        refine lv_goto (tgt := 0) hx hb dX11_look_19 (by decide) ?_
        exact ih0 ls f14 H locs z13 (show 200 - z13.toInt < _ by omega) (lv_cons hl 0 rfl (lv_nil hl)) h tf14 of14 (show iv z13 0 200 from by omega) k15 k19 k17 k18 (show (rn 32 32 B ln.toInt.toNat (Int.toNat (z13.toInt))) = (rn 32 32 B ln.toInt.toNat aa.toInt.toNat) from (by rw [rn_s (i := Int.toNat g0_u0_3.toInt) (by omega) (by omega)]; exact hv0_0))
  exact L0 201 ls f s.heap [] aa (show 200 - aa.toInt < _ by omega) (lv_cons hl 0 rfl (lv_nil hl)) h t o haa k_u0_2 k_u0_3 k_u0_1 hRtq (show (rn 32 32 B ln.toInt.toNat (Int.toNat (aa.toInt))) = (rn 32 32 B ln.toInt.toNat aa.toInt.toNat) from rfl)
abbrev rm_s_X11_failsX : Room := { frames := 0, cells := 0, slots := 0, locals := 0 }
set_option maxRecDepth 100000 in
set_option maxHeartbeats 4000000 in
theorem s_X11_failsX (l : Launch) (D : va_G) (G : Nat → Nat) (b0 : Nat) (τ : Nat → Nat) (f : hM) (t : TI G 9 τ f) (u0 : Nat) (hu0 : τ u0 = 60) (u1 : Int32) (hu1 : iv u1 0 200) (fa : Int32) (hfa : iv fa (-1) 200) (k_u0_4 : atp f u0 (fd 4 (.int fa))) : mV l yX11_fails cX11_fails 2 rm_s_X11_failsX D G b0 f [.ref u0, .int u1] (fun f1 => TI G 9 τ f1 ∧ Fr [60, 60005] τ f f1 ∧ (∃ fa1 : Int32, atp f1 u0 (fd 4 (.int fa1)) ∧ iv fa1 (-1) 200 ∧ (fa.toInt = -1 → fa1.toInt = u1.toInt) ∧ (fa.toInt ≠ -1 → fa1.toInt = fa.toInt))) := by
  refine met2 (own := RX11) (by decide) rfl (Nat.le_of_ble_eq_true rfl) ?_
  intro p e s m args below meth c ls Q hQ C hr hini hl h
  have hl : lv_has ls 2 [(0, .ref u0), (1, .int u1)] := hl
  obtain ⟨hx, hb, hml, hown, hts, hE0, hlk⟩ := id C
  have o := Fr.rf [60, 60005] τ f
  refine lv_aload_n hx hb dX11_fails_0 rfl (lv_at hl 0 rfl) ?_
  refine t_getfd C h t hu0 (by decide) wf_60 (v := .int fa) k_u0_4 fl_X11_97 dX11_fails_1 ?_
  refine lv_iconst (v := -1) hx hb dX11_fails_4 (by decide) ?_
  refine lv_icmp_ne (tgt := 13) hx hb dX11_fails_5 (by decide) (fun c1 => ?_) (fun c1 => ?_)
  · have c2 : fa.toInt ≠ (-1) := fun z_ => c1 (Int32.toInt_inj.mp z_)
    have i3 : iv fa 0 200 := iv_Nl c2 hfa (by decide)
    exact u_vret C h hr hQ (⟨t, o, ⟨fa, k_u0_4, (iv_w i3 (by decide)), (by omega)⟩⟩) (Nat.le_of_ble_eq_true rfl) (Nat.le_of_ble_eq_true rfl) dX11_fails_13
  · have c4 : fa.toInt = (-1) := congrArg Int32.toInt c1
    have i5 : iv fa (-1) (-1) := iv_Q c4 hfa (iv_k (x := (-1)) (k := (-1)) rfl) (by decide)
    refine lv_aload_n hx hb dX11_fails_8 rfl (lv_at hl 0 rfl) ?_
    refine lv_iload_n hx hb dX11_fails_9 rfl (lv_at hl 1 rfl) ?_
    refine t_put C h t o hu0 (by decide) (by decide) (by decide) wf_60 fw_60 (k := 4) rfl flw_X11_97 (Or.inr ⟨_, _, _, rfl, rfl⟩) (v := .int u1) rfl rfl ⟨_, rfl, (iv_w hu1 (by decide))⟩ dX11_fails_10 (fun f6 H locs h tf6 of6 hq ha_ hn_ hk_ => ?_)
    have k8 := ha_
    exact u_vret C h hr hQ (⟨tf6, of6, ⟨u1, k8, (iv_w hu1 (by decide)), (by omega)⟩⟩) (Nat.le_of_ble_eq_true rfl) (Nat.le_of_ble_eq_true rfl) dX11_fails_13
abbrev rm_s_X11_isDigitX : Room := { frames := 2, cells := 0, slots := 0, locals := 40 }
set_option maxRecDepth 100000 in
set_option maxHeartbeats 4000000 in
theorem s_X11_isDigitX (l : Launch) (D : va_G) (G : Nat → Nat) (b0 : Nat) (τ : Nat → Nat) (f : hM) (t : TI G 9 τ f) (u0 : Nat) (hu0 : τ u0 = 60) (ln : Int32) (hln : iv ln 0 200) (k_u0_2 : atp f u0 (fd 2 (.int ln))) (aa : Int32) (haa : iv aa 0 200) (k_u0_3 : atp f u0 (fd 3 (.int aa))) (tq : Nat) (htq : τ tq = 61) (k_u0_1 : atp f u0 (fd 1 (.ref tq))) (rt : Nat → Int32) (hRtq : atp f tq (eqc (.inl (G 0, 200, .inl rt)))) (B : Nat → Int) (hB : ∀ k : Nat, (k : Int) < ln.toInt → (rt k).toInt = sg (B k) ∧ 0 ≤ B k ∧ B k ≤ 255)  : mI l yX11_isDigit cX11_isDigit 2 (.boolean) rm_s_X11_isDigitX D G b0 f [.ref u0] (fun r f1 => iv r 0 1 ∧ TI G 9 τ f1 ∧ Fr [60, 60004] τ f f1 ∧ (r.toInt ≠ 0 → ((((rn 32 32 B ln.toInt.toNat aa.toInt.toNat) : Nat) : Int) < ln.toInt ∧ 48 ≤ B (rn 32 32 B ln.toInt.toNat aa.toInt.toNat) ∧ B (rn 32 32 B ln.toInt.toNat aa.toInt.toNat) ≤ 57)) ∧ (r.toInt = 0 → ¬ ((((rn 32 32 B ln.toInt.toNat aa.toInt.toNat) : Nat) : Int) < ln.toInt ∧ 48 ≤ B (rn 32 32 B ln.toInt.toNat aa.toInt.toNat) ∧ B (rn 32 32 B ln.toInt.toNat aa.toInt.toNat) ≤ 57)) ∧ (∃ aa1 : Int32, atp f1 u0 (fd 3 (.int aa1)) ∧ iv aa1 0 200 ∧ aa1.toInt = (((rn 32 32 B ln.toInt.toNat aa.toInt.toNat) : Nat) : Int))) := by
  refine met2 (own := RX11) (by decide) rfl (Nat.le_of_ble_eq_true rfl) ?_
  intro p e s m args below meth c ls Q hQ C hr hini hl h
  have hl : lv_has ls 2 [(0, .ref u0)] := hl
  obtain ⟨hx, hb, hml, hown, hts, hE0, hlk⟩ := id C
  have o := Fr.rf [60, 60004] τ f
  refine lv_aload_n hx hb dX11_isDigit_0 rfl (lv_at hl 0 rfl) ?_
  obtain ⟨_, r1⟩ := t_rec t hu0 (by decide) wf_60
  refine k_i (r_V C h hl (As := []) (rest := []) (s_X11_lookX l D G b0 τ f t u0 hu0 ln hln k_u0_2 aa haa k_u0_3 tq htq k_u0_1 rt hRtq B hB) r1 (Cn := RX11) (T := TX11) (N := 32) rfl rfl mk_X11_look w_1557 w_1559 w_40 w_1560 ⟨Nat.le_of_ble_eq_true rfl, Nat.le_of_ble_eq_true rfl⟩ rfl (Nat.le_of_ble_eq_true rfl) ⟨Nat.le_of_ble_eq_true rfl, Nat.le_of_ble_eq_true rfl⟩ rfl dX11_isDigit_1) h (fun r2 f3 H locs p4 h => ?_)
  obtain ⟨ir2, tf3, ogf3, x0r2, ⟨aa1_f3, kpu0_3f3, ipu0_3f3, rpu0_3f3⟩⟩ := p4
  have of3 : Fr [60, 60004] τ f f3 := Fr.tr o ogf3 (by decide) (by decide)
  have k5 := atp.fk k_u0_2 ogf3 hu0 (by decide) (by decide)
  have k6 := atp.fk k_u0_1 ogf3 hu0 (by decide) (by decide)
  have k7 := atp.fr hRtq ogf3 htq (by decide)
  refine lv_istore_n (lv' := [(1, .int r2), (0, .ref u0)]) hx hb dX11_isDigit_4 rfl hl (by decide) rfl (fun ls hl => ?_)
  refine lv_iload_n hx hb dX11_isDigit_5 rfl (lv_at hl 0 rfl) ?_
  refine lv_bipush (v := 48) hx hb dX11_isDigit_6 (by decide) ?_
  refine lv_icmp_lt (tgt := 21) hx hb dX11_isDigit_8 (by decide) (fun c8 => ?_) (fun c8 => ?_)
  · have c9 : r2.toInt < 48 := Int32.lt_iff_toInt_lt.mp c8
    have i10 : iv r2 (-1) 47 := iv_Ll c9 ir2 (iv_k (x := 48) (k := 48) rfl) (by decide)
    refine lv_iconst (v := 0) hx hb dX11_isDigit_21 (by decide) ?_
    exact u_zret C h hr hQ ⟨by decide, by decide⟩ (⟨⟨by decide, by decide⟩, tf3, of3, (fun h_ => absurd h_ (by decide)), (fun _ => (by omega)), ⟨aa1_f3, kpu0_3f3, ipu0_3f3, (by omega)⟩⟩) (Nat.le_of_ble_eq_true rfl) (Nat.le_of_ble_eq_true rfl) dX11_isDigit_22
  · have c11 : 48 ≤ r2.toInt := Int32.le_iff_toInt_le.mp (iv_nlt c8)
    have i12 : iv r2 48 255 := iv_Er c11 (iv_k (x := 48) (k := 48) rfl) ir2 (by decide)
    refine lv_iload_n hx hb dX11_isDigit_11 rfl (lv_at hl 0 rfl) ?_
    refine lv_bipush (v := 57) hx hb dX11_isDigit_12 (by decide) ?_
    refine lv_icmp_gt (tgt := 21) hx hb dX11_isDigit_14 (by decide) (fun c13 => ?_) (fun c13 => ?_)
    · have c14 : 57 < r2.toInt := Int32.lt_iff_toInt_lt.mp c13
      have i15 : iv r2 58 255 := iv_Lr c14 (iv_k (x := 57) (k := 57) rfl) i12 (by decide)
      refine lv_iconst (v := 0) hx hb dX11_isDigit_21 (by decide) ?_
      exact u_zret C h hr hQ ⟨by decide, by decide⟩ (⟨⟨by decide, by decide⟩, tf3, of3, (fun h_ => absurd h_ (by decide)), (fun _ => (by omega)), ⟨aa1_f3, kpu0_3f3, ipu0_3f3, (by omega)⟩⟩) (Nat.le_of_ble_eq_true rfl) (Nat.le_of_ble_eq_true rfl) dX11_isDigit_22
    · have c16 : r2.toInt ≤ 57 := Int32.le_iff_toInt_le.mp (iv_nlt c13)
      have i17 : iv r2 48 57 := iv_El c16 i12 (iv_k (x := 57) (k := 57) rfl) (by decide)
      refine lv_iconst (v := 1) hx hb dX11_isDigit_17 (by decide) ?_
      refine lv_goto (tgt := 22) hx hb dX11_isDigit_18 (by decide) ?_
      exact u_zret C h hr hQ ⟨by decide, by decide⟩ (⟨⟨by decide, by decide⟩, tf3, of3, (fun _ => (by omega)), (fun h_ => absurd h_ (by decide)), ⟨aa1_f3, kpu0_3f3, ipu0_3f3, (by omega)⟩⟩) (Nat.le_of_ble_eq_true rfl) (Nat.le_of_ble_eq_true rfl) dX11_isDigit_22
abbrev rm_s_X11_digitX : Room := { frames := 2, cells := 0, slots := 0, locals := 40 }
set_option maxRecDepth 100000 in
set_option maxHeartbeats 4000000 in
theorem s_X11_digitX (l : Launch) (D : va_G) (G : Nat → Nat) (b0 : Nat) (τ : Nat → Nat) (f : hM) (t : TI G 9 τ f) (u0 : Nat) (hu0 : τ u0 = 60) (u1 : Int32) (hu1 : iv u1 0 1) (ln : Int32) (hln : iv ln 0 200) (k_u0_2 : atp f u0 (fd 2 (.int ln))) (aa : Int32) (haa : iv aa 0 200) (k_u0_3 : atp f u0 (fd 3 (.int aa))) (tq : Nat) (htq : τ tq = 61) (k_u0_1 : atp f u0 (fd 1 (.ref tq))) (fa : Int32) (hfa : iv fa (-1) 200) (k_u0_4 : atp f u0 (fd 4 (.int fa))) (rt : Nat → Int32) (hRtq : atp f tq (eqc (.inl (G 0, 200, .inl rt)))) (B : Nat → Int) (hB : ∀ k : Nat, (k : Int) < ln.toInt → (rt k).toInt = sg (B k) ∧ 0 ≤ B k ∧ B k ≤ 255)  : mI l yX11_digit cX11_digit 5 (.int) rm_s_X11_digitX D G b0 f [.ref u0, .int u1] (fun r f1 => iv r (-1) 9 ∧ TI G 9 τ f1 ∧ Fr [60, 60004, 60005] τ f f1 ∧ ((((rn 48 57 B ln.toInt.toNat (rn 32 32 B ln.toInt.toNat aa.toInt.toNat)) = (rn 32 32 B ln.toInt.toNat aa.toInt.toNat) + 1 → r.toInt = B (rn 32 32 B ln.toInt.toNat aa.toInt.toNat) - 48) ∧ ((rn 48 57 B ln.toInt.toNat (rn 32 32 B ln.toInt.toNat aa.toInt.toNat)) ≠ (rn 32 32 B ln.toInt.toNat aa.toInt.toNat) + 1 → r.toInt = -1))) ∧ (∃ aa1 : Int32, atp f1 u0 (fd 3 (.int aa1)) ∧ iv aa1 0 200 ∧ aa1.toInt = (((rn 48 57 B ln.toInt.toNat (rn 32 32 B ln.toInt.toNat aa.toInt.toNat)) : Nat) : Int)) ∧ (∃ fa1 : Int32, atp f1 u0 (fd 4 (.int fa1)) ∧ iv fa1 (-1) 200 ∧ ((fa.toInt = -1 ∧ r.toInt < u1.toInt) → fa1.toInt = (((rn 32 32 B ln.toInt.toNat aa.toInt.toNat) : Nat) : Int)) ∧ (¬ (fa.toInt = -1 ∧ r.toInt < u1.toInt) → fa1.toInt = fa.toInt))) := by
  refine met2 (own := RX11) (by decide) rfl (Nat.le_of_ble_eq_true rfl) ?_
  intro p e s m args below meth c ls Q hQ C hr hini hl h
  have hl : lv_has ls 5 [(0, .ref u0), (1, .int u1)] := hl
  obtain ⟨hx, hb, hml, hown, hts, hE0, hlk⟩ := id C
  have o := Fr.rf [60, 60004, 60005] τ f
  have L10 : ∀ (n10 : Nat) (ls : Array Slot) (f_10 : hM) (H : Heap) (locs : List Loc) (v10_3 : Int32) (g10_u0_3 : Int32), 200 - g10_u0_3.toInt < (n10 : Int) → lv_has ls 5 [(0, .ref u0), (1, .int u1), (3, .int v10_3)] → hw D b0 s.heap f_10 H locs → TI G 9 τ f_10 → Fr [60, 60004, 60005] τ f f_10 → iv v10_3 0 200 → iv g10_u0_3 0 200 → atp f_10 u0 (fd 2 (.int ln)) → atp f_10 u0 (fd 1 (.ref tq)) → atp f_10 u0 (fd 4 (.int fa)) → atp f_10 tq (eqc (.inl (G 0, 200, .inl rt))) → atp f_10 u0 (fd 3 (.int g10_u0_3)) → v10_3.toInt ≤ g10_u0_3.toInt ∧ g10_u0_3.toInt ≤ 200 ∧ v10_3.toInt = (((rn 32 32 B ln.toInt.toNat aa.toInt.toNat) : Nat) : Int) → (rn 48 57 B ln.toInt.toNat (Int.toNat (g10_u0_3.toInt)) = (rn 48 57 B ln.toInt.toNat (rn 32 32 B ln.toInt.toNat aa.toInt.toNat))) → W p l e rm_s_X11_digitX s m args below meth c H locs 0 0 Q (F0 m 10 ls []) := by
    intro n10
    induction n10 with
    | zero => intro ls f_10 H locs v10_3 g10_u0_3 hm10 hl h t_10 o_10 iv10_3 ig10_u0_3 k10_u0_2 k10_u0_1 k10_u0_4 k10_tq_R k10_u0_3 hv10_0 hv10_1; exact absurd hm10 (by omega)
    | succ n10 ih10 =>
      intro ls f_10 H locs v10_3 g10_u0_3 hm10 hl h t_10 o_10 iv10_3 ig10_u0_3 k10_u0_2 k10_u0_1 k10_u0_4 k10_tq_R k10_u0_3 hv10_0 hv10_1
      refine lv_aload_n hx hb dX11_digit_10 rfl (lv_at hl 0 rfl) ?_
      obtain ⟨_, r1⟩ := t_rec t_10 hu0 (by decide) wf_60
      refine k_i (r_V C h hl (As := []) (rest := []) (s_X11_hereX l D G b0 τ f_10 t_10 u0 hu0 ln hln k10_u0_2 g10_u0_3 ig10_u0_3 k10_u0_3 tq htq k10_u0_1 rt k10_tq_R B hB) r1 (Cn := RX11) (T := TX11) (N := 32) rfl rfl mk_X11_here w_1561 w_1563 w_41 w_1564 ⟨Nat.le_of_ble_eq_true rfl, Nat.le_of_ble_eq_true rfl⟩ rfl (Nat.le_of_ble_eq_true rfl) ⟨Nat.le_of_ble_eq_true rfl, Nat.le_of_ble_eq_true rfl⟩ rfl dX11_digit_11) h (fun r2 f3 H locs p4 h => ?_)
      obtain ⟨ir2, tf3, ogf3, x0r2⟩ := p4
      have egf3 := Fr.nil2 ogf3
      subst egf3
      refine lv_bipush (v := 48) hx hb dX11_digit_14 (by decide) ?_
      refine lv_icmp_lt (tgt := 41) hx hb dX11_digit_16 (by decide) (fun c5 => ?_) (fun c5 => ?_)
      · have c6 : r2.toInt < 48 := Int32.lt_iff_toInt_lt.mp c5
        have i7 : iv r2 (-1) 47 := iv_Ll c6 ir2 (iv_k (x := 48) (k := 48) rfl) (by decide)
        have he_ : (rn 48 57 B ln.toInt.toNat (rn 32 32 B ln.toInt.toNat aa.toInt.toNat)) = Int.toNat g10_u0_3.toInt := by rw [← hv10_1, rn_e (by omega)]
        refine lv_aload_n hx hb dX11_digit_41 rfl (lv_at hl 0 rfl) ?_
        refine t_getfd C h t_10 hu0 (by decide) wf_60 (v := .int g10_u0_3) k10_u0_3 fl_X11_90 dX11_digit_42 ?_
        refine lv_iload_n hx hb dX11_digit_45 rfl (lv_at hl 2 rfl) ?_
        refine i_sub hx hb dX11_digit_46 ig10_u0_3 iv10_3 (lo := (-200)) (hi := 200) (by decide) (fun z10 ez10 mz10 iz10 => ?_)
        refine lv_iconst (v := 1) hx hb dX11_digit_47 (by decide) ?_
        refine lv_icmp_ne (tgt := 63) hx hb dX11_digit_48 (by decide) (fun c11 => ?_) (fun c11 => ?_)
        · have c12 : z10.toInt ≠ 1 := fun z_ => c11 (Int32.toInt_inj.mp z_)
          refine lv_iconst (v := -1) hx hb dX11_digit_63 (by decide) ?_
          refine lv_istore (lv' := [(4, .int (-1)), (0, .ref u0), (1, .int u1), (3, .int v10_3)]) hx hb dX11_digit_64 hl (by decide) rfl (fun ls hl => ?_)
          refine lv_iload hx hb dX11_digit_66 (lv_at hl 0 rfl) ?_
          refine lv_iload_n hx hb dX11_digit_68 rfl (lv_at hl 2 rfl) ?_
          refine lv_icmp_ge (tgt := 77) hx hb dX11_digit_69 (by decide) (fun c15 => ?_) (fun c15 => ?_)
          · have c16 : u1.toInt ≤ (-1) := Int32.le_iff_toInt_le.mp c15
            exact (iv_ce_ c16 hu1 (iv_k (x := (-1)) (k := (-1)) rfl) (by decide)).elim
          · have c17 : (-1) < u1.toInt := Int32.lt_iff_toInt_lt.mp (iv_nle c15)
            refine lv_aload_n hx hb dX11_digit_72 rfl (lv_at hl 1 rfl) ?_
            refine lv_iload_n hx hb dX11_digit_73 rfl (lv_at hl 3 rfl) ?_
            obtain ⟨_, r18⟩ := t_rec t_10 hu0 (by decide) wf_60
            refine k_v (r_V C h hl (As := [.int v10_3]) (rest := []) (s_X11_failsX l D G b0 τ f_10 t_10 u0 hu0 v10_3 iv10_3 fa hfa k10_u0_4) r18 (Cn := RX11) (T := TX11) (N := 32) rfl rfl mk_X11_fails w_1583 w_1585 w_44 w_1586 ⟨Nat.le_of_ble_eq_true rfl, Nat.le_of_ble_eq_true rfl⟩ rfl (Nat.le_of_ble_eq_true rfl) ⟨Nat.le_of_ble_eq_true rfl, Nat.le_of_ble_eq_true rfl⟩ rfl dX11_digit_74) h (fun f20 H locs p21 h => ?_)
            obtain ⟨tf20, ogf20, ⟨fa1_f20, kpu0_4f20, ipu0_4f20, rpu0_4f20⟩⟩ := p21
            have of20 : Fr [60, 60004, 60005] τ f f20 := Fr.tr o_10 ogf20 (by decide) (by decide)
            have k22 := atp.fk k10_u0_2 ogf20 hu0 (by decide) (by decide)
            have k23 := atp.fk k10_u0_1 ogf20 hu0 (by decide) (by decide)
            have k24 := atp.fr k10_tq_R ogf20 htq (by decide)
            have k25 := atp.fk k10_u0_3 ogf20 hu0 (by decide) (by decide)
            refine lv_iload hx hb dX11_digit_77 (lv_at hl 0 rfl) ?_
            exact u_iret C h hr hQ (⟨⟨by decide, by decide⟩, tf20, of20, (by have n_ : (-1 : Int32).toInt = -1 := rfl; omega), ⟨g10_u0_3, k25, ig10_u0_3, (by omega)⟩, ⟨fa1_f20, kpu0_4f20, ipu0_4f20, (by have n_ : (-1 : Int32).toInt = -1 := rfl; omega)⟩⟩) (Nat.le_of_ble_eq_true rfl) (Nat.le_of_ble_eq_true rfl) dX11_digit_79
        · have c13 : z10.toInt = 1 := congrArg Int32.toInt c11
          have i14 : iv z10 1 1 := iv_Q c13 iz10 (iv_k (x := 1) (k := 1) rfl) (by decide)
          refine lv_aload_n hx hb dX11_digit_51 rfl (lv_at hl 0 rfl) ?_
          refine t_getfd C h t_10 hu0 (by decide) wf_60 (v := .ref tq) k10_u0_1 fl_X11_9 dX11_digit_52 ?_
          refine lv_iload_n hx hb dX11_digit_55 rfl (lv_at hl 2 rfl) ?_
          refine e_bald C h t_10 htq (by decide) wf_61 k10_tq_R (ix_o (by omega)) dX11_digit_56 (fun z26 ez26 iz26 => ?_)
          have mz26 := congrArg Int32.toInt ez26
          have h_ := hB (rn 32 32 B ln.toInt.toNat aa.toInt.toNat) (by omega)
          have o_ := rn_one (lo := 48) (hi := 57) (B := B) (L := ln.toInt.toNat) (i := (rn 32 32 B ln.toInt.toNat aa.toInt.toNat)) (by omega)
          have s_ := sg_c h_.2
          have qz26 : z26.toInt = sg (B (rn 32 32 B ln.toInt.toNat aa.toInt.toNat)) := by rw [mz26, ← h_.1]; exact congrArg (fun z_ => (rt z_).toInt) (by omega)
          have i27 : iv z26 48 57 := ⟨by omega, by omega⟩
          refine lv_bipush (v := 48) hx hb dX11_digit_57 (by decide) ?_
          refine i_subk hx hb dX11_digit_59 i27 (k := 48) rfl (lo := 0) (hi := 9) (by decide) (fun z28 ez28 mz28 iz28 => ?_)
          refine lv_goto (tgt := 64) hx hb dX11_digit_60 (by decide) ?_
          refine lv_istore (lv' := [(4, .int z28), (0, .ref u0), (1, .int u1), (3, .int v10_3)]) hx hb dX11_digit_64 hl (by decide) rfl (fun ls hl => ?_)
          refine lv_iload hx hb dX11_digit_66 (lv_at hl 0 rfl) ?_
          refine lv_iload_n hx hb dX11_digit_68 rfl (lv_at hl 2 rfl) ?_
          refine lv_icmp_ge (tgt := 77) hx hb dX11_digit_69 (by decide) (fun c29 => ?_) (fun c29 => ?_)
          · have c30 : u1.toInt ≤ z28.toInt := Int32.le_iff_toInt_le.mp c29
            refine lv_iload hx hb dX11_digit_77 (lv_at hl 0 rfl) ?_
            exact u_iret C h hr hQ (⟨(iv_w iz28 (by decide)), t_10, o_10, (by omega), ⟨g10_u0_3, k10_u0_3, ig10_u0_3, (by omega)⟩, ⟨fa, k10_u0_4, hfa, (by have n_ : (-1 : Int32).toInt = -1 := rfl; omega)⟩⟩) (Nat.le_of_ble_eq_true rfl) (Nat.le_of_ble_eq_true rfl) dX11_digit_79
          · have c31 : z28.toInt < u1.toInt := Int32.lt_iff_toInt_lt.mp (iv_nle c29)
            have i32 : iv z28 0 0 := iv_Ll c31 iz28 hu1 (by decide)
            have i33 : iv u1 1 1 := iv_Lr c31 iz28 hu1 (by decide)
            refine lv_aload_n hx hb dX11_digit_72 rfl (lv_at hl 1 rfl) ?_
            refine lv_iload_n hx hb dX11_digit_73 rfl (lv_at hl 3 rfl) ?_
            obtain ⟨_, r34⟩ := t_rec t_10 hu0 (by decide) wf_60
            refine k_v (r_V C h hl (As := [.int v10_3]) (rest := []) (s_X11_failsX l D G b0 τ f_10 t_10 u0 hu0 v10_3 iv10_3 fa hfa k10_u0_4) r34 (Cn := RX11) (T := TX11) (N := 32) rfl rfl mk_X11_fails w_1583 w_1585 w_44 w_1586 ⟨Nat.le_of_ble_eq_true rfl, Nat.le_of_ble_eq_true rfl⟩ rfl (Nat.le_of_ble_eq_true rfl) ⟨Nat.le_of_ble_eq_true rfl, Nat.le_of_ble_eq_true rfl⟩ rfl dX11_digit_74) h (fun f36 H locs p37 h => ?_)
            obtain ⟨tf36, ogf36, ⟨fa1_f36, kpu0_4f36, ipu0_4f36, rpu0_4f36⟩⟩ := p37
            have of36 : Fr [60, 60004, 60005] τ f f36 := Fr.tr o_10 ogf36 (by decide) (by decide)
            have k38 := atp.fk k10_u0_2 ogf36 hu0 (by decide) (by decide)
            have k39 := atp.fk k10_u0_1 ogf36 hu0 (by decide) (by decide)
            have k40 := atp.fr k10_tq_R ogf36 htq (by decide)
            have k41 := atp.fk k10_u0_3 ogf36 hu0 (by decide) (by decide)
            refine lv_iload hx hb dX11_digit_77 (lv_at hl 0 rfl) ?_
            exact u_iret C h hr hQ (⟨(iv_w i32 (by decide)), tf36, of36, (by omega), ⟨g10_u0_3, k41, ig10_u0_3, (by omega)⟩, ⟨fa1_f36, kpu0_4f36, ipu0_4f36, (by have n_ : (-1 : Int32).toInt = -1 := rfl; omega)⟩⟩) (Nat.le_of_ble_eq_true rfl) (Nat.le_of_ble_eq_true rfl) dX11_digit_79
      · have c8 : 48 ≤ r2.toInt := Int32.le_iff_toInt_le.mp (iv_nlt c5)
        have i9 : iv r2 48 255 := iv_Er c8 (iv_k (x := 48) (k := 48) rfl) ir2 (by decide)
        refine lv_aload_n hx hb dX11_digit_19 rfl (lv_at hl 0 rfl) ?_
        obtain ⟨_, r42⟩ := t_rec t_10 hu0 (by decide) wf_60
        refine k_i (r_V C h hl (As := []) (rest := []) (s_X11_hereX l D G b0 τ f_10 t_10 u0 hu0 ln hln k10_u0_2 g10_u0_3 ig10_u0_3 k10_u0_3 tq htq k10_u0_1 rt k10_tq_R B hB) r42 (Cn := RX11) (T := TX11) (N := 32) rfl rfl mk_X11_here w_1561 w_1563 w_41 w_1564 ⟨Nat.le_of_ble_eq_true rfl, Nat.le_of_ble_eq_true rfl⟩ rfl (Nat.le_of_ble_eq_true rfl) ⟨Nat.le_of_ble_eq_true rfl, Nat.le_of_ble_eq_true rfl⟩ rfl dX11_digit_20) h (fun r43 f44 H locs p45 h => ?_)
        obtain ⟨ir43, tf44, ogf44, x0r43⟩ := p45
        have egf44 := Fr.nil2 ogf44
        subst egf44
        refine lv_bipush (v := 57) hx hb dX11_digit_23 (by decide) ?_
        refine lv_icmp_gt (tgt := 41) hx hb dX11_digit_25 (by decide) (fun c46 => ?_) (fun c46 => ?_)
        · have c47 : 57 < r43.toInt := Int32.lt_iff_toInt_lt.mp c46
          have i48 : iv r43 58 255 := iv_Lr c47 (iv_k (x := 57) (k := 57) rfl) ir43 (by decide)
          have he_ : (rn 48 57 B ln.toInt.toNat (rn 32 32 B ln.toInt.toNat aa.toInt.toNat)) = Int.toNat g10_u0_3.toInt := by rw [← hv10_1, rn_e (by omega)]
          refine lv_aload_n hx hb dX11_digit_41 rfl (lv_at hl 0 rfl) ?_
          refine t_getfd C h t_10 hu0 (by decide) wf_60 (v := .int g10_u0_3) k10_u0_3 fl_X11_90 dX11_digit_42 ?_
          refine lv_iload_n hx hb dX11_digit_45 rfl (lv_at hl 2 rfl) ?_
          refine i_sub hx hb dX11_digit_46 ig10_u0_3 iv10_3 (lo := (-200)) (hi := 200) (by decide) (fun z51 ez51 mz51 iz51 => ?_)
          refine lv_iconst (v := 1) hx hb dX11_digit_47 (by decide) ?_
          refine lv_icmp_ne (tgt := 63) hx hb dX11_digit_48 (by decide) (fun c52 => ?_) (fun c52 => ?_)
          · have c53 : z51.toInt ≠ 1 := fun z_ => c52 (Int32.toInt_inj.mp z_)
            refine lv_iconst (v := -1) hx hb dX11_digit_63 (by decide) ?_
            refine lv_istore (lv' := [(4, .int (-1)), (0, .ref u0), (1, .int u1), (3, .int v10_3)]) hx hb dX11_digit_64 hl (by decide) rfl (fun ls hl => ?_)
            refine lv_iload hx hb dX11_digit_66 (lv_at hl 0 rfl) ?_
            refine lv_iload_n hx hb dX11_digit_68 rfl (lv_at hl 2 rfl) ?_
            refine lv_icmp_ge (tgt := 77) hx hb dX11_digit_69 (by decide) (fun c56 => ?_) (fun c56 => ?_)
            · have c57 : u1.toInt ≤ (-1) := Int32.le_iff_toInt_le.mp c56
              exact (iv_ce_ c57 hu1 (iv_k (x := (-1)) (k := (-1)) rfl) (by decide)).elim
            · have c58 : (-1) < u1.toInt := Int32.lt_iff_toInt_lt.mp (iv_nle c56)
              refine lv_aload_n hx hb dX11_digit_72 rfl (lv_at hl 1 rfl) ?_
              refine lv_iload_n hx hb dX11_digit_73 rfl (lv_at hl 3 rfl) ?_
              obtain ⟨_, r59⟩ := t_rec t_10 hu0 (by decide) wf_60
              refine k_v (r_V C h hl (As := [.int v10_3]) (rest := []) (s_X11_failsX l D G b0 τ f_10 t_10 u0 hu0 v10_3 iv10_3 fa hfa k10_u0_4) r59 (Cn := RX11) (T := TX11) (N := 32) rfl rfl mk_X11_fails w_1583 w_1585 w_44 w_1586 ⟨Nat.le_of_ble_eq_true rfl, Nat.le_of_ble_eq_true rfl⟩ rfl (Nat.le_of_ble_eq_true rfl) ⟨Nat.le_of_ble_eq_true rfl, Nat.le_of_ble_eq_true rfl⟩ rfl dX11_digit_74) h (fun f61 H locs p62 h => ?_)
              obtain ⟨tf61, ogf61, ⟨fa1_f61, kpu0_4f61, ipu0_4f61, rpu0_4f61⟩⟩ := p62
              have of61 : Fr [60, 60004, 60005] τ f f61 := Fr.tr o_10 ogf61 (by decide) (by decide)
              have k63 := atp.fk k10_u0_2 ogf61 hu0 (by decide) (by decide)
              have k64 := atp.fk k10_u0_1 ogf61 hu0 (by decide) (by decide)
              have k65 := atp.fr k10_tq_R ogf61 htq (by decide)
              have k66 := atp.fk k10_u0_3 ogf61 hu0 (by decide) (by decide)
              refine lv_iload hx hb dX11_digit_77 (lv_at hl 0 rfl) ?_
              exact u_iret C h hr hQ (⟨⟨by decide, by decide⟩, tf61, of61, (by have n_ : (-1 : Int32).toInt = -1 := rfl; omega), ⟨g10_u0_3, k66, ig10_u0_3, (by omega)⟩, ⟨fa1_f61, kpu0_4f61, ipu0_4f61, (by have n_ : (-1 : Int32).toInt = -1 := rfl; omega)⟩⟩) (Nat.le_of_ble_eq_true rfl) (Nat.le_of_ble_eq_true rfl) dX11_digit_79
          · have c54 : z51.toInt = 1 := congrArg Int32.toInt c52
            have i55 : iv z51 1 1 := iv_Q c54 iz51 (iv_k (x := 1) (k := 1) rfl) (by decide)
            refine lv_aload_n hx hb dX11_digit_51 rfl (lv_at hl 0 rfl) ?_
            refine t_getfd C h t_10 hu0 (by decide) wf_60 (v := .ref tq) k10_u0_1 fl_X11_9 dX11_digit_52 ?_
            refine lv_iload_n hx hb dX11_digit_55 rfl (lv_at hl 2 rfl) ?_
            refine e_bald C h t_10 htq (by decide) wf_61 k10_tq_R (ix_o (by omega)) dX11_digit_56 (fun z67 ez67 iz67 => ?_)
            have mz67 := congrArg Int32.toInt ez67
            have h_ := hB (rn 32 32 B ln.toInt.toNat aa.toInt.toNat) (by omega)
            have o_ := rn_one (lo := 48) (hi := 57) (B := B) (L := ln.toInt.toNat) (i := (rn 32 32 B ln.toInt.toNat aa.toInt.toNat)) (by omega)
            have s_ := sg_c h_.2
            have qz67 : z67.toInt = sg (B (rn 32 32 B ln.toInt.toNat aa.toInt.toNat)) := by rw [mz67, ← h_.1]; exact congrArg (fun z_ => (rt z_).toInt) (by omega)
            have i68 : iv z67 48 57 := ⟨by omega, by omega⟩
            refine lv_bipush (v := 48) hx hb dX11_digit_57 (by decide) ?_
            refine i_subk hx hb dX11_digit_59 i68 (k := 48) rfl (lo := 0) (hi := 9) (by decide) (fun z69 ez69 mz69 iz69 => ?_)
            refine lv_goto (tgt := 64) hx hb dX11_digit_60 (by decide) ?_
            refine lv_istore (lv' := [(4, .int z69), (0, .ref u0), (1, .int u1), (3, .int v10_3)]) hx hb dX11_digit_64 hl (by decide) rfl (fun ls hl => ?_)
            refine lv_iload hx hb dX11_digit_66 (lv_at hl 0 rfl) ?_
            refine lv_iload_n hx hb dX11_digit_68 rfl (lv_at hl 2 rfl) ?_
            refine lv_icmp_ge (tgt := 77) hx hb dX11_digit_69 (by decide) (fun c70 => ?_) (fun c70 => ?_)
            · have c71 : u1.toInt ≤ z69.toInt := Int32.le_iff_toInt_le.mp c70
              refine lv_iload hx hb dX11_digit_77 (lv_at hl 0 rfl) ?_
              exact u_iret C h hr hQ (⟨(iv_w iz69 (by decide)), t_10, o_10, (by omega), ⟨g10_u0_3, k10_u0_3, ig10_u0_3, (by omega)⟩, ⟨fa, k10_u0_4, hfa, (by have n_ : (-1 : Int32).toInt = -1 := rfl; omega)⟩⟩) (Nat.le_of_ble_eq_true rfl) (Nat.le_of_ble_eq_true rfl) dX11_digit_79
            · have c72 : z69.toInt < u1.toInt := Int32.lt_iff_toInt_lt.mp (iv_nle c70)
              have i73 : iv z69 0 0 := iv_Ll c72 iz69 hu1 (by decide)
              have i74 : iv u1 1 1 := iv_Lr c72 iz69 hu1 (by decide)
              refine lv_aload_n hx hb dX11_digit_72 rfl (lv_at hl 1 rfl) ?_
              refine lv_iload_n hx hb dX11_digit_73 rfl (lv_at hl 3 rfl) ?_
              obtain ⟨_, r75⟩ := t_rec t_10 hu0 (by decide) wf_60
              refine k_v (r_V C h hl (As := [.int v10_3]) (rest := []) (s_X11_failsX l D G b0 τ f_10 t_10 u0 hu0 v10_3 iv10_3 fa hfa k10_u0_4) r75 (Cn := RX11) (T := TX11) (N := 32) rfl rfl mk_X11_fails w_1583 w_1585 w_44 w_1586 ⟨Nat.le_of_ble_eq_true rfl, Nat.le_of_ble_eq_true rfl⟩ rfl (Nat.le_of_ble_eq_true rfl) ⟨Nat.le_of_ble_eq_true rfl, Nat.le_of_ble_eq_true rfl⟩ rfl dX11_digit_74) h (fun f77 H locs p78 h => ?_)
              obtain ⟨tf77, ogf77, ⟨fa1_f77, kpu0_4f77, ipu0_4f77, rpu0_4f77⟩⟩ := p78
              have of77 : Fr [60, 60004, 60005] τ f f77 := Fr.tr o_10 ogf77 (by decide) (by decide)
              have k79 := atp.fk k10_u0_2 ogf77 hu0 (by decide) (by decide)
              have k80 := atp.fk k10_u0_1 ogf77 hu0 (by decide) (by decide)
              have k81 := atp.fr k10_tq_R ogf77 htq (by decide)
              have k82 := atp.fk k10_u0_3 ogf77 hu0 (by decide) (by decide)
              refine lv_iload hx hb dX11_digit_77 (lv_at hl 0 rfl) ?_
              exact u_iret C h hr hQ (⟨(iv_w i73 (by decide)), tf77, of77, (by omega), ⟨g10_u0_3, k82, ig10_u0_3, (by omega)⟩, ⟨fa1_f77, kpu0_4f77, ipu0_4f77, (by have n_ : (-1 : Int32).toInt = -1 := rfl; omega)⟩⟩) (Nat.le_of_ble_eq_true rfl) (Nat.le_of_ble_eq_true rfl) dX11_digit_79
        · have c49 : r43.toInt ≤ 57 := Int32.le_iff_toInt_le.mp (iv_nlt c46)
          have i50 : iv r43 (-1) 57 := iv_El c49 ir43 (iv_k (x := 57) (k := 57) rfl) (by decide)
          refine lv_aload_n hx hb dX11_digit_28 rfl (lv_at hl 0 rfl) ?_
          refine lv_dup hx hb dX11_digit_29 rfl ?_
          refine t_getfd C h t_10 hu0 (by decide) wf_60 (v := .int g10_u0_3) k10_u0_3 fl_X11_90 dX11_digit_30 ?_
          refine lv_iconst (v := 1) hx hb dX11_digit_33 (by decide) ?_
          refine i_addk hx hb dX11_digit_34 ig10_u0_3 (k := 1) rfl (lo := 1) (hi := 201) (by decide) (fun z83 ez83 mz83 iz83 => ?_)
          refine t_put C h t_10 o_10 hu0 (by decide) (by decide) (by decide) wf_60 fw_60 (k := 3) rfl flw_X11_90 (Or.inr ⟨_, _, _, rfl, rfl⟩) (v := .int z83) rfl rfl ⟨_, rfl, (show iv z83 0 200 from by omega)⟩ dX11_digit_35 (fun f84 H locs h tf84 of84 hq ha_ hn_ hk_ => ?_)
          have k85 := hk_ 2 _ (by decide) k10_u0_2
          have k86 := hk_ 1 _ (by decide) k10_u0_1
          have k87 := hk_ 4 _ (by decide) k10_u0_4
          have k88 := atp.tg k10_tq_R hq htq (by decide)
          have k90 := ha_
          refine lv_goto (tgt := 10) hx hb dX11_digit_38 (by decide) ?_
          exact ih10 ls f84 H locs v10_3 z83 (show 200 - z83.toInt < _ by omega) (lv_cons hl 0 rfl (lv_cons hl 1 rfl (lv_cons hl 2 rfl (lv_nil hl)))) h tf84 of84 iv10_3 (show iv z83 0 200 from by omega) k85 k86 k87 k88 k90 (show v10_3.toInt ≤ z83.toInt ∧ z83.toInt ≤ 200 ∧ v10_3.toInt = (((rn 32 32 B ln.toInt.toNat aa.toInt.toNat) : Nat) : Int) by omega) (show rn 48 57 B ln.toInt.toNat (Int.toNat (z83.toInt)) = (rn 48 57 B ln.toInt.toNat (rn 32 32 B ln.toInt.toNat aa.toInt.toNat)) from (by rw [rn_s (i := Int.toNat g10_u0_3.toInt) (by omega) (by omega)]; exact hv10_1))
  refine lv_aload_n hx hb dX11_digit_0 rfl (lv_at hl 0 rfl) ?_
  obtain ⟨_, r91⟩ := t_rec t hu0 (by decide) wf_60
  refine k_i (r_V C h hl (As := []) (rest := []) (s_X11_lookX l D G b0 τ f t u0 hu0 ln hln k_u0_2 aa haa k_u0_3 tq htq k_u0_1 rt hRtq B hB) r91 (Cn := RX11) (T := TX11) (N := 32) rfl rfl mk_X11_look w_1557 w_1559 w_40 w_1560 ⟨Nat.le_of_ble_eq_true rfl, Nat.le_of_ble_eq_true rfl⟩ rfl (Nat.le_of_ble_eq_true rfl) ⟨Nat.le_of_ble_eq_true rfl, Nat.le_of_ble_eq_true rfl⟩ rfl dX11_digit_1) h (fun r92 f93 H locs p94 h => ?_)
  obtain ⟨ir92, tf93, ogf93, x0r92, ⟨aa1_f93, kpu0_3f93, ipu0_3f93, rpu0_3f93⟩⟩ := p94
  have of93 : Fr [60, 60004, 60005] τ f f93 := Fr.tr o ogf93 (by decide) (by decide)
  have k95 := atp.fk k_u0_2 ogf93 hu0 (by decide) (by decide)
  have k96 := atp.fk k_u0_1 ogf93 hu0 (by decide) (by decide)
  have k97 := atp.fk k_u0_4 ogf93 hu0 (by decide) (by decide)
  have k98 := atp.fr hRtq ogf93 htq (by decide)
  refine lv_istore_n (lv' := [(2, .int r92), (0, .ref u0), (1, .int u1)]) hx hb dX11_digit_4 rfl hl (by decide) rfl (fun ls hl => ?_)
  refine lv_aload_n hx hb dX11_digit_5 rfl (lv_at hl 1 rfl) ?_
  refine t_getfd C h tf93 hu0 (by decide) wf_60 (v := .int aa1_f93) kpu0_3f93 fl_X11_90 dX11_digit_6 ?_
  refine lv_istore_n (lv' := [(3, .int aa1_f93), (2, .int r92), (0, .ref u0), (1, .int u1)]) hx hb dX11_digit_9 rfl hl (by decide) rfl (fun ls hl => ?_)
  exact L10 201 ls f93 H locs aa1_f93 aa1_f93 (show 200 - aa1_f93.toInt < _ by omega) (lv_cons hl 2 rfl (lv_cons hl 3 rfl (lv_cons hl 0 rfl (lv_nil hl)))) h tf93 of93 ipu0_3f93 ipu0_3f93 k95 k96 k97 k98 kpu0_3f93 (show aa1_f93.toInt ≤ aa1_f93.toInt ∧ aa1_f93.toInt ≤ 200 ∧ aa1_f93.toInt = (((rn 32 32 B ln.toInt.toNat aa.toInt.toNat) : Nat) : Int) by omega) (show rn 48 57 B ln.toInt.toNat (Int.toNat (aa1_f93.toInt)) = (rn 48 57 B ln.toInt.toNat (rn 32 32 B ln.toInt.toNat aa.toInt.toNat)) from (congrArg (rn 48 57 B ln.toInt.toNat) (by omega)))
abbrev rm_s_X11_wordX0 : Room := { frames := 4, cells := 0, slots := 0, locals := 85 }
set_option maxRecDepth 100000 in
set_option maxHeartbeats 4000000 in
theorem s_X11_wordX0 (l : Launch) (D : va_G) (G : Nat → Nat) (b0 : Nat) (τ : Nat → Nat) (f : hM) (t : TI G 9 τ f) (u0 : Nat) (hu0 : τ u0 = 60) (ln : Int32) (hln : iv ln 0 200) (k_u0_2 : atp f u0 (fd 2 (.int ln))) (aa : Int32) (haa : iv aa 0 200) (k_u0_3 : atp f u0 (fd 3 (.int aa))) (tq : Nat) (htq : τ tq = 61) (k_u0_1 : atp f u0 (fd 1 (.ref tq))) (rt : Nat → Int32) (hRtq : atp f tq (eqc (.inl (G 0, 200, .inl rt)))) (B : Nat → Int) (hB : ∀ k : Nat, (k : Int) < ln.toInt → (rt k).toInt = sg (B k) ∧ 0 ≤ B k ∧ B k ≤ 255)  : mI l yX11_word cX11_word 4 (.boolean) rm_s_X11_wordX0 D G b0 f [.ref u0, .ref (G (20 + 0))] (fun r f1 => iv r 0 1 ∧ TI G 9 τ f1 ∧ Fr [60, 60004] τ f f1 ∧ (r.toInt ≠ 0 → (((((rn 32 32 B ln.toInt.toNat aa.toInt.toNat) + 1 : Nat) : Int) ≤ ln.toInt) ∧ B (rn 32 32 B ln.toInt.toNat aa.toInt.toNat) = 110 ∧ ¬ (((((rn 32 32 B ln.toInt.toNat aa.toInt.toNat) + 1 : Nat) : Int) < ln.toInt) ∧ 97 ≤ B ((rn 32 32 B ln.toInt.toNat aa.toInt.toNat) + 1) ∧ B ((rn 32 32 B ln.toInt.toNat aa.toInt.toNat) + 1) ≤ 122))) ∧ (r.toInt = 0 → ¬ (((((rn 32 32 B ln.toInt.toNat aa.toInt.toNat) + 1 : Nat) : Int) ≤ ln.toInt) ∧ B (rn 32 32 B ln.toInt.toNat aa.toInt.toNat) = 110 ∧ ¬ (((((rn 32 32 B ln.toInt.toNat aa.toInt.toNat) + 1 : Nat) : Int) < ln.toInt) ∧ 97 ≤ B ((rn 32 32 B ln.toInt.toNat aa.toInt.toNat) + 1) ∧ B ((rn 32 32 B ln.toInt.toNat aa.toInt.toNat) + 1) ≤ 122))) ∧ (∃ aa1 : Int32, atp f1 u0 (fd 3 (.int aa1)) ∧ iv aa1 0 200 ∧ (r.toInt ≠ 0 → aa1.toInt = (((rn 32 32 B ln.toInt.toNat aa.toInt.toNat) : Nat) : Int) + 1) ∧ (r.toInt = 0 → aa1.toInt = (((rn 32 32 B ln.toInt.toNat aa.toInt.toNat) : Nat) : Int)))) := by
  refine met2 (own := RX11) (by decide) rfl (Nat.le_of_ble_eq_true rfl) ?_
  intro p e s m args below meth c ls Q hQ C hr hini hl h
  have hl : lv_has ls 4 [(0, .ref u0), (1, .ref (G (20 + 0)))] := hl
  obtain ⟨hx, hb, hml, hown, hts, hE0, hlk⟩ := id C
  have o := Fr.rf [60, 60004] τ f
  refine lv_aload_n hx hb dX11_word_0 rfl (lv_at hl 0 rfl) ?_
  obtain ⟨_, r1⟩ := t_rec t hu0 (by decide) wf_60
  refine k_i (r_V C h hl (As := []) (rest := []) (s_X11_lookX l D G b0 τ f t u0 hu0 ln hln k_u0_2 aa haa k_u0_3 tq htq k_u0_1 rt hRtq B hB) r1 (Cn := RX11) (T := TX11) (N := 32) rfl rfl mk_X11_look w_1557 w_1559 w_40 w_1560 ⟨Nat.le_of_ble_eq_true rfl, Nat.le_of_ble_eq_true rfl⟩ rfl (Nat.le_of_ble_eq_true rfl) ⟨Nat.le_of_ble_eq_true rfl, Nat.le_of_ble_eq_true rfl⟩ rfl dX11_word_1) h (fun r2 f3 H locs p4 h => ?_)
  obtain ⟨ir2, tf3, ogf3, x0r2, ⟨aa1_f3, kpu0_3f3, ipu0_3f3, rpu0_3f3⟩⟩ := p4
  have of3 : Fr [60, 60004] τ f f3 := Fr.tr o ogf3 (by decide) (by decide)
  have k5 := atp.fk k_u0_2 ogf3 hu0 (by decide) (by decide)
  have k6 := atp.fk k_u0_1 ogf3 hu0 (by decide) (by decide)
  have k7 := atp.fr hRtq ogf3 htq (by decide)
  refine lv_istore_n (lv' := [(2, .int r2), (0, .ref u0), (1, .ref (G (20 + 0)))]) hx hb dX11_word_4 rfl hl (by decide) rfl (fun ls hl => ?_)
  refine lv_iconst (v := 0) hx hb dX11_word_5 (by decide) ?_
  refine lv_istore_n (lv' := [(3, .int 0), (2, .int r2), (0, .ref u0), (1, .ref (G (20 + 0)))]) hx hb dX11_word_6 rfl hl (by decide) rfl (fun ls hl => ?_)
  refine lv_iload_n hx hb dX11_word_7 rfl (lv_at hl 0 rfl) ?_
  refine lv_aload_n hx hb dX11_word_8 rfl (lv_at hl 3 rfl) ?_
  have hrv := vk_recv hE0.2.2.2.2.2.2.2.2.2.1 (i := 0) (by decide) h.2.2.1
  refine k_i (r_VK C h hl (As := []) (rest := [.int 0]) (c_length l D G b0 f3 0 (by decide)) hrv mk_J0_length_8abf5 w_1574 w_1252 w_1253 w_1254 ⟨(Nat.le_of_ble_eq_true rfl), (Nat.le_of_ble_eq_true rfl)⟩ rfl (Nat.le_of_ble_eq_true rfl) ⟨(Nat.le_of_ble_eq_true rfl), (Nat.le_of_ble_eq_true rfl)⟩ rfl dX11_word_9) h (fun r8 f9 H locs p10 h => ?_)
  obtain ⟨er8, rfl⟩ := p10
  obtain rfl : (1 : Int32) = r8 := by rw [er8]; decide
  refine lv_icmp_ge (tgt := 55) hx hb dX11_word_12 (by decide) (fun c11 => ?_) (fun c11 => ?_)
  · exact absurd c11 (by decide)
  · refine lv_aload_n hx hb dX11_word_15 rfl (lv_at hl 2 rfl) ?_
    refine t_getfd C h tf3 hu0 (by decide) wf_60 (v := .int aa1_f3) kpu0_3f3 fl_X11_90 dX11_word_16 ?_
    refine lv_iload_n hx hb dX11_word_19 rfl (lv_at hl 0 rfl) ?_
    refine i_addk hx hb dX11_word_20 ipu0_3f3 (k := 0) rfl (lo := 0) (hi := 200) (by decide) (fun z14 ez14 mz14 iz14 => ?_)
    refine lv_aload_n hx hb dX11_word_21 rfl (lv_at hl 2 rfl) ?_
    refine t_getfd C h tf3 hu0 (by decide) wf_60 (v := .int ln) k5 fl_X11_79 dX11_word_22 ?_
    refine lv_icmp_ge (tgt := 47) hx hb dX11_word_25 (by decide) (fun c15 => ?_) (fun c15 => ?_)
    · have c16 : ln.toInt ≤ z14.toInt := Int32.le_iff_toInt_le.mp c15
      refine lv_iconst (v := 0) hx hb dX11_word_47 (by decide) ?_
      exact u_zret C h hr hQ ⟨by decide, by decide⟩ (⟨⟨by decide, by decide⟩, tf3, of3, (fun h_ => absurd h_ (by decide)), (fun _ => (by omega)), ⟨aa1_f3, kpu0_3f3, ipu0_3f3, (by have n1_ : (1 : Int32).toInt = 1 := rfl; have n0_ : (0 : Int32).toInt = 0 := rfl; omega)⟩⟩) (Nat.le_of_ble_eq_true rfl) (Nat.le_of_ble_eq_true rfl) dX11_word_48
    · have c17 : z14.toInt < ln.toInt := Int32.lt_iff_toInt_lt.mp (iv_nle c15)
      have i18 : iv z14 0 199 := iv_Ll c17 iz14 hln (by decide)
      have i19 : iv ln 1 200 := iv_Lr c17 iz14 hln (by decide)
      refine lv_aload_n hx hb dX11_word_28 rfl (lv_at hl 2 rfl) ?_
      refine t_getfd C h tf3 hu0 (by decide) wf_60 (v := .ref tq) k6 fl_X11_9 dX11_word_29 ?_
      refine lv_aload_n hx hb dX11_word_32 rfl (lv_at hl 2 rfl) ?_
      refine t_getfd C h tf3 hu0 (by decide) wf_60 (v := .int aa1_f3) kpu0_3f3 fl_X11_90 dX11_word_33 ?_
      refine lv_iload_n hx hb dX11_word_36 rfl (lv_at hl 0 rfl) ?_
      refine i_addk hx hb dX11_word_37 ipu0_3f3 (k := 0) rfl (lo := 0) (hi := 200) (by decide) (fun z20 ez20 mz20 iz20 => ?_)
      refine e_bald C h tf3 htq (by decide) wf_61 k7 (ix_o (by omega)) dX11_word_38 (fun z21 ez21 iz21 => ?_)
      have mz21 := congrArg Int32.toInt ez21
      have hz21 := hB (rn 32 32 B ln.toInt.toNat aa.toInt.toNat) (by omega)
      have sz21 := sg_c hz21.2
      have qz21 : z21.toInt = sg (B (rn 32 32 B ln.toInt.toNat aa.toInt.toNat)) := by rw [mz21, ← hz21.1]; exact congrArg (fun z_ => (rt z_).toInt) (by omega)
      refine lv_aload_n hx hb dX11_word_39 rfl (lv_at hl 3 rfl) ?_
      refine lv_iload_n hx hb dX11_word_40 rfl (lv_at hl 0 rfl) ?_
      have hrv := vk_recv hE0.2.2.2.2.2.2.2.2.2.1 (i := 0) (by decide) h.2.2.1
      refine k_i (r_VK C h hl (As := [.int 0]) (rest := [.int z21]) (c_charAt l D G b0 f3 0 (by decide) 0 (by decide) (by unfold vp_in; decide)) hrv mk_J0_charAt_5068e w_1575 w_473 w_474 w_475 ⟨(Nat.le_of_ble_eq_true rfl), (Nat.le_of_ble_eq_true rfl)⟩ rfl (Nat.le_of_ble_eq_true rfl) ⟨(Nat.le_of_ble_eq_true rfl), (Nat.le_of_ble_eq_true rfl)⟩ rfl dX11_word_41) h (fun r22 f23 H locs p24 h => ?_)
      obtain ⟨er22, rfl⟩ := p24
      obtain rfl : (110 : Int32) = r22 := by rw [er22]; decide
      refine lv_icmp_eq (tgt := 49) hx hb dX11_word_44 (by decide) (fun c25 => ?_) (fun c25 => ?_)
      · have c26 : z21.toInt = 110 := congrArg Int32.toInt c25
        have i27 : iv z21 110 110 := iv_Q c26 iz21 (iv_k (x := 110) (k := 110) rfl) (by decide)
        refine lv_iinc (v := 1) (lv' := [(3, .int 1), (2, .int r2), (0, .ref u0), (1, .ref (G (20 + 0)))]) hx hb dX11_word_49 hl (k := 0) rfl (by decide) (by decide) rfl (fun ls hl => ?_)
        refine lv_goto (tgt := 7) hx hb dX11_word_52 (by decide) ?_
        refine lv_iload_n hx hb dX11_word_7 rfl (lv_at hl 0 rfl) ?_
        refine lv_aload_n hx hb dX11_word_8 rfl (lv_at hl 3 rfl) ?_
        have hrv := vk_recv hE0.2.2.2.2.2.2.2.2.2.1 (i := 0) (by decide) h.2.2.1
        refine k_i (r_VK C h hl (As := []) (rest := [.int 1]) (c_length l D G b0 f3 0 (by decide)) hrv mk_J0_length_8abf5 w_1574 w_1252 w_1253 w_1254 ⟨(Nat.le_of_ble_eq_true rfl), (Nat.le_of_ble_eq_true rfl)⟩ rfl (Nat.le_of_ble_eq_true rfl) ⟨(Nat.le_of_ble_eq_true rfl), (Nat.le_of_ble_eq_true rfl)⟩ rfl dX11_word_9) h (fun r29 f30 H locs p31 h => ?_)
        obtain ⟨er29, rfl⟩ := p31
        obtain rfl : (1 : Int32) = r29 := by rw [er29]; decide
        refine lv_icmp_ge (tgt := 55) hx hb dX11_word_12 (by decide) (fun c32 => ?_) (fun c32 => ?_)
        · refine lv_aload_n hx hb dX11_word_55 rfl (lv_at hl 2 rfl) ?_
          refine t_getfd C h tf3 hu0 (by decide) wf_60 (v := .int aa1_f3) kpu0_3f3 fl_X11_90 dX11_word_56 ?_
          refine lv_aload_n hx hb dX11_word_59 rfl (lv_at hl 3 rfl) ?_
          have hrv := vk_recv hE0.2.2.2.2.2.2.2.2.2.1 (i := 0) (by decide) h.2.2.1
          refine k_i (r_VK C h hl (As := []) (rest := [.int aa1_f3]) (c_length l D G b0 f3 0 (by decide)) hrv mk_J0_length_8abf5 w_1574 w_1252 w_1253 w_1254 ⟨(Nat.le_of_ble_eq_true rfl), (Nat.le_of_ble_eq_true rfl)⟩ rfl (Nat.le_of_ble_eq_true rfl) ⟨(Nat.le_of_ble_eq_true rfl), (Nat.le_of_ble_eq_true rfl)⟩ rfl dX11_word_60) h (fun r35 f36 H locs p37 h => ?_)
          obtain ⟨er35, rfl⟩ := p37
          obtain rfl : (1 : Int32) = r35 := by rw [er35]; decide
          refine i_addk hx hb dX11_word_63 ipu0_3f3 (k := 1) rfl (lo := 1) (hi := 201) (by decide) (fun z38 ez38 mz38 iz38 => ?_)
          refine lv_istore_n (lv' := [(3, .int z38), (2, .int r2), (0, .ref u0), (1, .ref (G (20 + 0)))]) hx hb dX11_word_64 rfl hl (by decide) rfl (fun ls hl => ?_)
          refine lv_iload_n hx hb dX11_word_65 rfl (lv_at hl 0 rfl) ?_
          refine lv_aload_n hx hb dX11_word_66 rfl (lv_at hl 2 rfl) ?_
          refine t_getfd C h tf3 hu0 (by decide) wf_60 (v := .int ln) k5 fl_X11_79 dX11_word_67 ?_
          refine lv_icmp_ge (tgt := 97) hx hb dX11_word_70 (by decide) (fun c39 => ?_) (fun c39 => ?_)
          · have c40 : ln.toInt ≤ z38.toInt := Int32.le_iff_toInt_le.mp c39
            refine lv_aload_n hx hb dX11_word_97 rfl (lv_at hl 2 rfl) ?_
            refine lv_iload_n hx hb dX11_word_98 rfl (lv_at hl 0 rfl) ?_
            refine t_put C h tf3 of3 hu0 (by decide) (by decide) (by decide) wf_60 fw_60 (k := 3) rfl flw_X11_90 (Or.inr ⟨_, _, _, rfl, rfl⟩) (v := .int z38) rfl rfl ⟨_, rfl, (show iv z38 0 200 from by omega)⟩ dX11_word_99 (fun f44 H locs h tf44 of44 hq ha_ hn_ hk_ => ?_)
            have k45 := hk_ 2 _ (by decide) k5
            have k46 := hk_ 1 _ (by decide) k6
            have k47 := atp.tg k7 hq htq (by decide)
            have k49 := ha_
            refine lv_iconst (v := 1) hx hb dX11_word_102 (by decide) ?_
            exact u_zret C h hr hQ ⟨by decide, by decide⟩ (⟨⟨by decide, by decide⟩, tf44, of44, (fun _ => (by omega)), (fun h_ => absurd h_ (by decide)), ⟨z38, k49, (show iv z38 0 200 from by omega), (by have n1_ : (1 : Int32).toInt = 1 := rfl; have n0_ : (0 : Int32).toInt = 0 := rfl; omega)⟩⟩) (Nat.le_of_ble_eq_true rfl) (Nat.le_of_ble_eq_true rfl) dX11_word_103
          · have c41 : z38.toInt < ln.toInt := Int32.lt_iff_toInt_lt.mp (iv_nle c39)
            have i42 : iv z38 1 199 := iv_Ll c41 iz38 i19 (by decide)
            have i43 : iv ln 2 200 := iv_Lr c41 iz38 i19 (by decide)
            refine lv_aload_n hx hb dX11_word_73 rfl (lv_at hl 2 rfl) ?_
            refine t_getfd C h tf3 hu0 (by decide) wf_60 (v := .ref tq) k6 fl_X11_9 dX11_word_74 ?_
            refine lv_iload_n hx hb dX11_word_77 rfl (lv_at hl 0 rfl) ?_
            refine e_bald C h tf3 htq (by decide) wf_61 k7 (iv_in i42 (by decide)) dX11_word_78 (fun z50 ez50 iz50 => ?_)
            have mz50 := congrArg Int32.toInt ez50
            have hz50 := hB ((rn 32 32 B ln.toInt.toNat aa.toInt.toNat) + 1) (by omega)
            have sz50 := sg_c hz50.2
            have qz50 : z50.toInt = sg (B ((rn 32 32 B ln.toInt.toNat aa.toInt.toNat) + 1)) := by rw [mz50, ← hz50.1]; exact congrArg (fun z_ => (rt z_).toInt) (by omega)
            refine lv_bipush (v := 97) hx hb dX11_word_79 (by decide) ?_
            refine lv_icmp_lt (tgt := 97) hx hb dX11_word_81 (by decide) (fun c51 => ?_) (fun c51 => ?_)
            · have c52 : z50.toInt < 97 := Int32.lt_iff_toInt_lt.mp c51
              have i53 : iv z50 (-128) 96 := iv_Ll c52 iz50 (iv_k (x := 97) (k := 97) rfl) (by decide)
              refine lv_aload_n hx hb dX11_word_97 rfl (lv_at hl 2 rfl) ?_
              refine lv_iload_n hx hb dX11_word_98 rfl (lv_at hl 0 rfl) ?_
              refine t_put C h tf3 of3 hu0 (by decide) (by decide) (by decide) wf_60 fw_60 (k := 3) rfl flw_X11_90 (Or.inr ⟨_, _, _, rfl, rfl⟩) (v := .int z38) rfl rfl ⟨_, rfl, (iv_w i42 (by decide))⟩ dX11_word_99 (fun f56 H locs h tf56 of56 hq ha_ hn_ hk_ => ?_)
              have k57 := hk_ 2 _ (by decide) k5
              have k58 := hk_ 1 _ (by decide) k6
              have k59 := atp.tg k7 hq htq (by decide)
              have k61 := ha_
              refine lv_iconst (v := 1) hx hb dX11_word_102 (by decide) ?_
              exact u_zret C h hr hQ ⟨by decide, by decide⟩ (⟨⟨by decide, by decide⟩, tf56, of56, (fun _ => (by omega)), (fun h_ => absurd h_ (by decide)), ⟨z38, k61, (iv_w i42 (by decide)), (by have n1_ : (1 : Int32).toInt = 1 := rfl; have n0_ : (0 : Int32).toInt = 0 := rfl; omega)⟩⟩) (Nat.le_of_ble_eq_true rfl) (Nat.le_of_ble_eq_true rfl) dX11_word_103
            · have c54 : 97 ≤ z50.toInt := Int32.le_iff_toInt_le.mp (iv_nlt c51)
              have i55 : iv z50 97 127 := iv_Er c54 (iv_k (x := 97) (k := 97) rfl) iz50 (by decide)
              refine lv_aload_n hx hb dX11_word_84 rfl (lv_at hl 2 rfl) ?_
              refine t_getfd C h tf3 hu0 (by decide) wf_60 (v := .ref tq) k6 fl_X11_9 dX11_word_85 ?_
              refine lv_iload_n hx hb dX11_word_88 rfl (lv_at hl 0 rfl) ?_
              refine e_bald C h tf3 htq (by decide) wf_61 k7 (iv_in i42 (by decide)) dX11_word_89 (fun z62 ez62 iz62 => ?_)
              have mz62 := congrArg Int32.toInt ez62
              have hz62 := hB ((rn 32 32 B ln.toInt.toNat aa.toInt.toNat) + 1) (by omega)
              have sz62 := sg_c hz62.2
              have qz62 : z62.toInt = sg (B ((rn 32 32 B ln.toInt.toNat aa.toInt.toNat) + 1)) := by rw [mz62, ← hz62.1]; exact congrArg (fun z_ => (rt z_).toInt) (by omega)
              refine lv_bipush (v := 122) hx hb dX11_word_90 (by decide) ?_
              refine lv_icmp_gt (tgt := 97) hx hb dX11_word_92 (by decide) (fun c63 => ?_) (fun c63 => ?_)
              · have c64 : 122 < z62.toInt := Int32.lt_iff_toInt_lt.mp c63
                have i65 : iv z62 123 127 := iv_Lr c64 (iv_k (x := 122) (k := 122) rfl) iz62 (by decide)
                refine lv_aload_n hx hb dX11_word_97 rfl (lv_at hl 2 rfl) ?_
                refine lv_iload_n hx hb dX11_word_98 rfl (lv_at hl 0 rfl) ?_
                refine t_put C h tf3 of3 hu0 (by decide) (by decide) (by decide) wf_60 fw_60 (k := 3) rfl flw_X11_90 (Or.inr ⟨_, _, _, rfl, rfl⟩) (v := .int z38) rfl rfl ⟨_, rfl, (iv_w i42 (by decide))⟩ dX11_word_99 (fun f68 H locs h tf68 of68 hq ha_ hn_ hk_ => ?_)
                have k69 := hk_ 2 _ (by decide) k5
                have k70 := hk_ 1 _ (by decide) k6
                have k71 := atp.tg k7 hq htq (by decide)
                have k73 := ha_
                refine lv_iconst (v := 1) hx hb dX11_word_102 (by decide) ?_
                exact u_zret C h hr hQ ⟨by decide, by decide⟩ (⟨⟨by decide, by decide⟩, tf68, of68, (fun _ => (by omega)), (fun h_ => absurd h_ (by decide)), ⟨z38, k73, (iv_w i42 (by decide)), (by have n1_ : (1 : Int32).toInt = 1 := rfl; have n0_ : (0 : Int32).toInt = 0 := rfl; omega)⟩⟩) (Nat.le_of_ble_eq_true rfl) (Nat.le_of_ble_eq_true rfl) dX11_word_103
              · have c66 : z62.toInt ≤ 122 := Int32.le_iff_toInt_le.mp (iv_nlt c63)
                have i67 : iv z62 (-128) 122 := iv_El c66 iz62 (iv_k (x := 122) (k := 122) rfl) (by decide)
                refine lv_iconst (v := 0) hx hb dX11_word_95 (by decide) ?_
                exact u_zret C h hr hQ ⟨by decide, by decide⟩ (⟨⟨by decide, by decide⟩, tf3, of3, (fun h_ => absurd h_ (by decide)), (fun _ => (by omega)), ⟨aa1_f3, kpu0_3f3, ipu0_3f3, (by have n1_ : (1 : Int32).toInt = 1 := rfl; have n0_ : (0 : Int32).toInt = 0 := rfl; omega)⟩⟩) (Nat.le_of_ble_eq_true rfl) (Nat.le_of_ble_eq_true rfl) dX11_word_96
        · exact absurd c32 (by decide)
      · have c28 : z21.toInt ≠ 110 := fun z_ => c25 (Int32.toInt_inj.mp z_)
        refine lv_iconst (v := 0) hx hb dX11_word_47 (by decide) ?_
        exact u_zret C h hr hQ ⟨by decide, by decide⟩ (⟨⟨by decide, by decide⟩, tf3, of3, (fun h_ => absurd h_ (by decide)), (fun _ => (by omega)), ⟨aa1_f3, kpu0_3f3, ipu0_3f3, (by have n1_ : (1 : Int32).toInt = 1 := rfl; have n0_ : (0 : Int32).toInt = 0 := rfl; omega)⟩⟩) (Nat.le_of_ble_eq_true rfl) (Nat.le_of_ble_eq_true rfl) dX11_word_48
abbrev rm_s_X11_wordX1 : Room := { frames := 4, cells := 0, slots := 0, locals := 85 }
set_option maxRecDepth 100000 in
set_option maxHeartbeats 4000000 in
theorem s_X11_wordX1 (l : Launch) (D : va_G) (G : Nat → Nat) (b0 : Nat) (τ : Nat → Nat) (f : hM) (t : TI G 9 τ f) (u0 : Nat) (hu0 : τ u0 = 60) (ln : Int32) (hln : iv ln 0 200) (k_u0_2 : atp f u0 (fd 2 (.int ln))) (aa : Int32) (haa : iv aa 0 200) (k_u0_3 : atp f u0 (fd 3 (.int aa))) (tq : Nat) (htq : τ tq = 61) (k_u0_1 : atp f u0 (fd 1 (.ref tq))) (rt : Nat → Int32) (hRtq : atp f tq (eqc (.inl (G 0, 200, .inl rt)))) (B : Nat → Int) (hB : ∀ k : Nat, (k : Int) < ln.toInt → (rt k).toInt = sg (B k) ∧ 0 ≤ B k ∧ B k ≤ 255)  : mI l yX11_word cX11_word 4 (.boolean) rm_s_X11_wordX1 D G b0 f [.ref u0, .ref (G (20 + 1))] (fun r f1 => iv r 0 1 ∧ TI G 9 τ f1 ∧ Fr [60, 60004] τ f f1 ∧ (r.toInt ≠ 0 → (((((rn 32 32 B ln.toInt.toNat aa.toInt.toNat) + 2 : Nat) : Int) ≤ ln.toInt) ∧ B (rn 32 32 B ln.toInt.toNat aa.toInt.toNat) = 110 ∧ B ((rn 32 32 B ln.toInt.toNat aa.toInt.toNat) + 1) = 101 ∧ ¬ (((((rn 32 32 B ln.toInt.toNat aa.toInt.toNat) + 2 : Nat) : Int) < ln.toInt) ∧ 97 ≤ B ((rn 32 32 B ln.toInt.toNat aa.toInt.toNat) + 2) ∧ B ((rn 32 32 B ln.toInt.toNat aa.toInt.toNat) + 2) ≤ 122))) ∧ (r.toInt = 0 → ¬ (((((rn 32 32 B ln.toInt.toNat aa.toInt.toNat) + 2 : Nat) : Int) ≤ ln.toInt) ∧ B (rn 32 32 B ln.toInt.toNat aa.toInt.toNat) = 110 ∧ B ((rn 32 32 B ln.toInt.toNat aa.toInt.toNat) + 1) = 101 ∧ ¬ (((((rn 32 32 B ln.toInt.toNat aa.toInt.toNat) + 2 : Nat) : Int) < ln.toInt) ∧ 97 ≤ B ((rn 32 32 B ln.toInt.toNat aa.toInt.toNat) + 2) ∧ B ((rn 32 32 B ln.toInt.toNat aa.toInt.toNat) + 2) ≤ 122))) ∧ (∃ aa1 : Int32, atp f1 u0 (fd 3 (.int aa1)) ∧ iv aa1 0 200 ∧ (r.toInt ≠ 0 → aa1.toInt = (((rn 32 32 B ln.toInt.toNat aa.toInt.toNat) : Nat) : Int) + 2) ∧ (r.toInt = 0 → aa1.toInt = (((rn 32 32 B ln.toInt.toNat aa.toInt.toNat) : Nat) : Int)))) := by
  refine met2 (own := RX11) (by decide) rfl (Nat.le_of_ble_eq_true rfl) ?_
  intro p e s m args below meth c ls Q hQ C hr hini hl h
  have hl : lv_has ls 4 [(0, .ref u0), (1, .ref (G (20 + 1)))] := hl
  obtain ⟨hx, hb, hml, hown, hts, hE0, hlk⟩ := id C
  have o := Fr.rf [60, 60004] τ f
  refine lv_aload_n hx hb dX11_word_0 rfl (lv_at hl 0 rfl) ?_
  obtain ⟨_, r1⟩ := t_rec t hu0 (by decide) wf_60
  refine k_i (r_V C h hl (As := []) (rest := []) (s_X11_lookX l D G b0 τ f t u0 hu0 ln hln k_u0_2 aa haa k_u0_3 tq htq k_u0_1 rt hRtq B hB) r1 (Cn := RX11) (T := TX11) (N := 32) rfl rfl mk_X11_look w_1557 w_1559 w_40 w_1560 ⟨Nat.le_of_ble_eq_true rfl, Nat.le_of_ble_eq_true rfl⟩ rfl (Nat.le_of_ble_eq_true rfl) ⟨Nat.le_of_ble_eq_true rfl, Nat.le_of_ble_eq_true rfl⟩ rfl dX11_word_1) h (fun r2 f3 H locs p4 h => ?_)
  obtain ⟨ir2, tf3, ogf3, x0r2, ⟨aa1_f3, kpu0_3f3, ipu0_3f3, rpu0_3f3⟩⟩ := p4
  have of3 : Fr [60, 60004] τ f f3 := Fr.tr o ogf3 (by decide) (by decide)
  have k5 := atp.fk k_u0_2 ogf3 hu0 (by decide) (by decide)
  have k6 := atp.fk k_u0_1 ogf3 hu0 (by decide) (by decide)
  have k7 := atp.fr hRtq ogf3 htq (by decide)
  refine lv_istore_n (lv' := [(2, .int r2), (0, .ref u0), (1, .ref (G (20 + 1)))]) hx hb dX11_word_4 rfl hl (by decide) rfl (fun ls hl => ?_)
  refine lv_iconst (v := 0) hx hb dX11_word_5 (by decide) ?_
  refine lv_istore_n (lv' := [(3, .int 0), (2, .int r2), (0, .ref u0), (1, .ref (G (20 + 1)))]) hx hb dX11_word_6 rfl hl (by decide) rfl (fun ls hl => ?_)
  refine lv_iload_n hx hb dX11_word_7 rfl (lv_at hl 0 rfl) ?_
  refine lv_aload_n hx hb dX11_word_8 rfl (lv_at hl 3 rfl) ?_
  have hrv := vk_recv hE0.2.2.2.2.2.2.2.2.2.1 (i := 1) (by decide) h.2.2.1
  refine k_i (r_VK C h hl (As := []) (rest := [.int 0]) (c_length l D G b0 f3 1 (by decide)) hrv mk_J0_length_8abf5 w_1574 w_1252 w_1253 w_1254 ⟨(Nat.le_of_ble_eq_true rfl), (Nat.le_of_ble_eq_true rfl)⟩ rfl (Nat.le_of_ble_eq_true rfl) ⟨(Nat.le_of_ble_eq_true rfl), (Nat.le_of_ble_eq_true rfl)⟩ rfl dX11_word_9) h (fun r8 f9 H locs p10 h => ?_)
  obtain ⟨er8, rfl⟩ := p10
  obtain rfl : (2 : Int32) = r8 := by rw [er8]; decide
  refine lv_icmp_ge (tgt := 55) hx hb dX11_word_12 (by decide) (fun c11 => ?_) (fun c11 => ?_)
  · exact absurd c11 (by decide)
  · refine lv_aload_n hx hb dX11_word_15 rfl (lv_at hl 2 rfl) ?_
    refine t_getfd C h tf3 hu0 (by decide) wf_60 (v := .int aa1_f3) kpu0_3f3 fl_X11_90 dX11_word_16 ?_
    refine lv_iload_n hx hb dX11_word_19 rfl (lv_at hl 0 rfl) ?_
    refine i_addk hx hb dX11_word_20 ipu0_3f3 (k := 0) rfl (lo := 0) (hi := 200) (by decide) (fun z14 ez14 mz14 iz14 => ?_)
    refine lv_aload_n hx hb dX11_word_21 rfl (lv_at hl 2 rfl) ?_
    refine t_getfd C h tf3 hu0 (by decide) wf_60 (v := .int ln) k5 fl_X11_79 dX11_word_22 ?_
    refine lv_icmp_ge (tgt := 47) hx hb dX11_word_25 (by decide) (fun c15 => ?_) (fun c15 => ?_)
    · have c16 : ln.toInt ≤ z14.toInt := Int32.le_iff_toInt_le.mp c15
      refine lv_iconst (v := 0) hx hb dX11_word_47 (by decide) ?_
      exact u_zret C h hr hQ ⟨by decide, by decide⟩ (⟨⟨by decide, by decide⟩, tf3, of3, (fun h_ => absurd h_ (by decide)), (fun _ => (by omega)), ⟨aa1_f3, kpu0_3f3, ipu0_3f3, (by have n1_ : (1 : Int32).toInt = 1 := rfl; have n0_ : (0 : Int32).toInt = 0 := rfl; omega)⟩⟩) (Nat.le_of_ble_eq_true rfl) (Nat.le_of_ble_eq_true rfl) dX11_word_48
    · have c17 : z14.toInt < ln.toInt := Int32.lt_iff_toInt_lt.mp (iv_nle c15)
      have i18 : iv z14 0 199 := iv_Ll c17 iz14 hln (by decide)
      have i19 : iv ln 1 200 := iv_Lr c17 iz14 hln (by decide)
      refine lv_aload_n hx hb dX11_word_28 rfl (lv_at hl 2 rfl) ?_
      refine t_getfd C h tf3 hu0 (by decide) wf_60 (v := .ref tq) k6 fl_X11_9 dX11_word_29 ?_
      refine lv_aload_n hx hb dX11_word_32 rfl (lv_at hl 2 rfl) ?_
      refine t_getfd C h tf3 hu0 (by decide) wf_60 (v := .int aa1_f3) kpu0_3f3 fl_X11_90 dX11_word_33 ?_
      refine lv_iload_n hx hb dX11_word_36 rfl (lv_at hl 0 rfl) ?_
      refine i_addk hx hb dX11_word_37 ipu0_3f3 (k := 0) rfl (lo := 0) (hi := 200) (by decide) (fun z20 ez20 mz20 iz20 => ?_)
      refine e_bald C h tf3 htq (by decide) wf_61 k7 (ix_o (by omega)) dX11_word_38 (fun z21 ez21 iz21 => ?_)
      have mz21 := congrArg Int32.toInt ez21
      have hz21 := hB (rn 32 32 B ln.toInt.toNat aa.toInt.toNat) (by omega)
      have sz21 := sg_c hz21.2
      have qz21 : z21.toInt = sg (B (rn 32 32 B ln.toInt.toNat aa.toInt.toNat)) := by rw [mz21, ← hz21.1]; exact congrArg (fun z_ => (rt z_).toInt) (by omega)
      refine lv_aload_n hx hb dX11_word_39 rfl (lv_at hl 3 rfl) ?_
      refine lv_iload_n hx hb dX11_word_40 rfl (lv_at hl 0 rfl) ?_
      have hrv := vk_recv hE0.2.2.2.2.2.2.2.2.2.1 (i := 1) (by decide) h.2.2.1
      refine k_i (r_VK C h hl (As := [.int 0]) (rest := [.int z21]) (c_charAt l D G b0 f3 1 (by decide) 0 (by decide) (by unfold vp_in; decide)) hrv mk_J0_charAt_5068e w_1575 w_473 w_474 w_475 ⟨(Nat.le_of_ble_eq_true rfl), (Nat.le_of_ble_eq_true rfl)⟩ rfl (Nat.le_of_ble_eq_true rfl) ⟨(Nat.le_of_ble_eq_true rfl), (Nat.le_of_ble_eq_true rfl)⟩ rfl dX11_word_41) h (fun r22 f23 H locs p24 h => ?_)
      obtain ⟨er22, rfl⟩ := p24
      obtain rfl : (110 : Int32) = r22 := by rw [er22]; decide
      refine lv_icmp_eq (tgt := 49) hx hb dX11_word_44 (by decide) (fun c25 => ?_) (fun c25 => ?_)
      · have c26 : z21.toInt = 110 := congrArg Int32.toInt c25
        have i27 : iv z21 110 110 := iv_Q c26 iz21 (iv_k (x := 110) (k := 110) rfl) (by decide)
        refine lv_iinc (v := 1) (lv' := [(3, .int 1), (2, .int r2), (0, .ref u0), (1, .ref (G (20 + 1)))]) hx hb dX11_word_49 hl (k := 0) rfl (by decide) (by decide) rfl (fun ls hl => ?_)
        refine lv_goto (tgt := 7) hx hb dX11_word_52 (by decide) ?_
        refine lv_iload_n hx hb dX11_word_7 rfl (lv_at hl 0 rfl) ?_
        refine lv_aload_n hx hb dX11_word_8 rfl (lv_at hl 3 rfl) ?_
        have hrv := vk_recv hE0.2.2.2.2.2.2.2.2.2.1 (i := 1) (by decide) h.2.2.1
        refine k_i (r_VK C h hl (As := []) (rest := [.int 1]) (c_length l D G b0 f3 1 (by decide)) hrv mk_J0_length_8abf5 w_1574 w_1252 w_1253 w_1254 ⟨(Nat.le_of_ble_eq_true rfl), (Nat.le_of_ble_eq_true rfl)⟩ rfl (Nat.le_of_ble_eq_true rfl) ⟨(Nat.le_of_ble_eq_true rfl), (Nat.le_of_ble_eq_true rfl)⟩ rfl dX11_word_9) h (fun r29 f30 H locs p31 h => ?_)
        obtain ⟨er29, rfl⟩ := p31
        obtain rfl : (2 : Int32) = r29 := by rw [er29]; decide
        refine lv_icmp_ge (tgt := 55) hx hb dX11_word_12 (by decide) (fun c32 => ?_) (fun c32 => ?_)
        · exact absurd c32 (by decide)
        · refine lv_aload_n hx hb dX11_word_15 rfl (lv_at hl 2 rfl) ?_
          refine t_getfd C h tf3 hu0 (by decide) wf_60 (v := .int aa1_f3) kpu0_3f3 fl_X11_90 dX11_word_16 ?_
          refine lv_iload_n hx hb dX11_word_19 rfl (lv_at hl 0 rfl) ?_
          refine i_addk hx hb dX11_word_20 ipu0_3f3 (k := 1) rfl (lo := 1) (hi := 201) (by decide) (fun z35 ez35 mz35 iz35 => ?_)
          refine lv_aload_n hx hb dX11_word_21 rfl (lv_at hl 2 rfl) ?_
          refine t_getfd C h tf3 hu0 (by decide) wf_60 (v := .int ln) k5 fl_X11_79 dX11_word_22 ?_
          refine lv_icmp_ge (tgt := 47) hx hb dX11_word_25 (by decide) (fun c36 => ?_) (fun c36 => ?_)
          · have c37 : ln.toInt ≤ z35.toInt := Int32.le_iff_toInt_le.mp c36
            refine lv_iconst (v := 0) hx hb dX11_word_47 (by decide) ?_
            exact u_zret C h hr hQ ⟨by decide, by decide⟩ (⟨⟨by decide, by decide⟩, tf3, of3, (fun h_ => absurd h_ (by decide)), (fun _ => (by omega)), ⟨aa1_f3, kpu0_3f3, ipu0_3f3, (by have n1_ : (1 : Int32).toInt = 1 := rfl; have n0_ : (0 : Int32).toInt = 0 := rfl; omega)⟩⟩) (Nat.le_of_ble_eq_true rfl) (Nat.le_of_ble_eq_true rfl) dX11_word_48
          · have c38 : z35.toInt < ln.toInt := Int32.lt_iff_toInt_lt.mp (iv_nle c36)
            have i39 : iv z35 1 199 := iv_Ll c38 iz35 i19 (by decide)
            have i40 : iv ln 2 200 := iv_Lr c38 iz35 i19 (by decide)
            refine lv_aload_n hx hb dX11_word_28 rfl (lv_at hl 2 rfl) ?_
            refine t_getfd C h tf3 hu0 (by decide) wf_60 (v := .ref tq) k6 fl_X11_9 dX11_word_29 ?_
            refine lv_aload_n hx hb dX11_word_32 rfl (lv_at hl 2 rfl) ?_
            refine t_getfd C h tf3 hu0 (by decide) wf_60 (v := .int aa1_f3) kpu0_3f3 fl_X11_90 dX11_word_33 ?_
            refine lv_iload_n hx hb dX11_word_36 rfl (lv_at hl 0 rfl) ?_
            refine i_addk hx hb dX11_word_37 ipu0_3f3 (k := 1) rfl (lo := 1) (hi := 201) (by decide) (fun z41 ez41 mz41 iz41 => ?_)
            refine e_bald C h tf3 htq (by decide) wf_61 k7 (ix_o (by omega)) dX11_word_38 (fun z42 ez42 iz42 => ?_)
            have mz42 := congrArg Int32.toInt ez42
            have hz42 := hB ((rn 32 32 B ln.toInt.toNat aa.toInt.toNat) + 1) (by omega)
            have sz42 := sg_c hz42.2
            have qz42 : z42.toInt = sg (B ((rn 32 32 B ln.toInt.toNat aa.toInt.toNat) + 1)) := by rw [mz42, ← hz42.1]; exact congrArg (fun z_ => (rt z_).toInt) (by omega)
            refine lv_aload_n hx hb dX11_word_39 rfl (lv_at hl 3 rfl) ?_
            refine lv_iload_n hx hb dX11_word_40 rfl (lv_at hl 0 rfl) ?_
            have hrv := vk_recv hE0.2.2.2.2.2.2.2.2.2.1 (i := 1) (by decide) h.2.2.1
            refine k_i (r_VK C h hl (As := [.int 1]) (rest := [.int z42]) (c_charAt l D G b0 f3 1 (by decide) 1 (by decide) (by unfold vp_in; decide)) hrv mk_J0_charAt_5068e w_1575 w_473 w_474 w_475 ⟨(Nat.le_of_ble_eq_true rfl), (Nat.le_of_ble_eq_true rfl)⟩ rfl (Nat.le_of_ble_eq_true rfl) ⟨(Nat.le_of_ble_eq_true rfl), (Nat.le_of_ble_eq_true rfl)⟩ rfl dX11_word_41) h (fun r43 f44 H locs p45 h => ?_)
            obtain ⟨er43, rfl⟩ := p45
            obtain rfl : (101 : Int32) = r43 := by rw [er43]; decide
            refine lv_icmp_eq (tgt := 49) hx hb dX11_word_44 (by decide) (fun c46 => ?_) (fun c46 => ?_)
            · have c47 : z42.toInt = 101 := congrArg Int32.toInt c46
              have i48 : iv z42 101 101 := iv_Q c47 iz42 (iv_k (x := 101) (k := 101) rfl) (by decide)
              refine lv_iinc (v := 2) (lv' := [(3, .int 2), (2, .int r2), (0, .ref u0), (1, .ref (G (20 + 1)))]) hx hb dX11_word_49 hl (k := 0) rfl (by decide) (by decide) rfl (fun ls hl => ?_)
              refine lv_goto (tgt := 7) hx hb dX11_word_52 (by decide) ?_
              refine lv_iload_n hx hb dX11_word_7 rfl (lv_at hl 0 rfl) ?_
              refine lv_aload_n hx hb dX11_word_8 rfl (lv_at hl 3 rfl) ?_
              have hrv := vk_recv hE0.2.2.2.2.2.2.2.2.2.1 (i := 1) (by decide) h.2.2.1
              refine k_i (r_VK C h hl (As := []) (rest := [.int 2]) (c_length l D G b0 f3 1 (by decide)) hrv mk_J0_length_8abf5 w_1574 w_1252 w_1253 w_1254 ⟨(Nat.le_of_ble_eq_true rfl), (Nat.le_of_ble_eq_true rfl)⟩ rfl (Nat.le_of_ble_eq_true rfl) ⟨(Nat.le_of_ble_eq_true rfl), (Nat.le_of_ble_eq_true rfl)⟩ rfl dX11_word_9) h (fun r50 f51 H locs p52 h => ?_)
              obtain ⟨er50, rfl⟩ := p52
              obtain rfl : (2 : Int32) = r50 := by rw [er50]; decide
              refine lv_icmp_ge (tgt := 55) hx hb dX11_word_12 (by decide) (fun c53 => ?_) (fun c53 => ?_)
              · refine lv_aload_n hx hb dX11_word_55 rfl (lv_at hl 2 rfl) ?_
                refine t_getfd C h tf3 hu0 (by decide) wf_60 (v := .int aa1_f3) kpu0_3f3 fl_X11_90 dX11_word_56 ?_
                refine lv_aload_n hx hb dX11_word_59 rfl (lv_at hl 3 rfl) ?_
                have hrv := vk_recv hE0.2.2.2.2.2.2.2.2.2.1 (i := 1) (by decide) h.2.2.1
                refine k_i (r_VK C h hl (As := []) (rest := [.int aa1_f3]) (c_length l D G b0 f3 1 (by decide)) hrv mk_J0_length_8abf5 w_1574 w_1252 w_1253 w_1254 ⟨(Nat.le_of_ble_eq_true rfl), (Nat.le_of_ble_eq_true rfl)⟩ rfl (Nat.le_of_ble_eq_true rfl) ⟨(Nat.le_of_ble_eq_true rfl), (Nat.le_of_ble_eq_true rfl)⟩ rfl dX11_word_60) h (fun r56 f57 H locs p58 h => ?_)
                obtain ⟨er56, rfl⟩ := p58
                obtain rfl : (2 : Int32) = r56 := by rw [er56]; decide
                refine i_addk hx hb dX11_word_63 ipu0_3f3 (k := 2) rfl (lo := 2) (hi := 202) (by decide) (fun z59 ez59 mz59 iz59 => ?_)
                refine lv_istore_n (lv' := [(3, .int z59), (2, .int r2), (0, .ref u0), (1, .ref (G (20 + 1)))]) hx hb dX11_word_64 rfl hl (by decide) rfl (fun ls hl => ?_)
                refine lv_iload_n hx hb dX11_word_65 rfl (lv_at hl 0 rfl) ?_
                refine lv_aload_n hx hb dX11_word_66 rfl (lv_at hl 2 rfl) ?_
                refine t_getfd C h tf3 hu0 (by decide) wf_60 (v := .int ln) k5 fl_X11_79 dX11_word_67 ?_
                refine lv_icmp_ge (tgt := 97) hx hb dX11_word_70 (by decide) (fun c60 => ?_) (fun c60 => ?_)
                · have c61 : ln.toInt ≤ z59.toInt := Int32.le_iff_toInt_le.mp c60
                  refine lv_aload_n hx hb dX11_word_97 rfl (lv_at hl 2 rfl) ?_
                  refine lv_iload_n hx hb dX11_word_98 rfl (lv_at hl 0 rfl) ?_
                  refine t_put C h tf3 of3 hu0 (by decide) (by decide) (by decide) wf_60 fw_60 (k := 3) rfl flw_X11_90 (Or.inr ⟨_, _, _, rfl, rfl⟩) (v := .int z59) rfl rfl ⟨_, rfl, (show iv z59 0 200 from by omega)⟩ dX11_word_99 (fun f65 H locs h tf65 of65 hq ha_ hn_ hk_ => ?_)
                  have k66 := hk_ 2 _ (by decide) k5
                  have k67 := hk_ 1 _ (by decide) k6
                  have k68 := atp.tg k7 hq htq (by decide)
                  have k70 := ha_
                  refine lv_iconst (v := 1) hx hb dX11_word_102 (by decide) ?_
                  exact u_zret C h hr hQ ⟨by decide, by decide⟩ (⟨⟨by decide, by decide⟩, tf65, of65, (fun _ => (by omega)), (fun h_ => absurd h_ (by decide)), ⟨z59, k70, (show iv z59 0 200 from by omega), (by have n1_ : (1 : Int32).toInt = 1 := rfl; have n0_ : (0 : Int32).toInt = 0 := rfl; omega)⟩⟩) (Nat.le_of_ble_eq_true rfl) (Nat.le_of_ble_eq_true rfl) dX11_word_103
                · have c62 : z59.toInt < ln.toInt := Int32.lt_iff_toInt_lt.mp (iv_nle c60)
                  have i63 : iv z59 2 199 := iv_Ll c62 iz59 i40 (by decide)
                  have i64 : iv ln 3 200 := iv_Lr c62 iz59 i40 (by decide)
                  refine lv_aload_n hx hb dX11_word_73 rfl (lv_at hl 2 rfl) ?_
                  refine t_getfd C h tf3 hu0 (by decide) wf_60 (v := .ref tq) k6 fl_X11_9 dX11_word_74 ?_
                  refine lv_iload_n hx hb dX11_word_77 rfl (lv_at hl 0 rfl) ?_
                  refine e_bald C h tf3 htq (by decide) wf_61 k7 (iv_in i63 (by decide)) dX11_word_78 (fun z71 ez71 iz71 => ?_)
                  have mz71 := congrArg Int32.toInt ez71
                  have hz71 := hB ((rn 32 32 B ln.toInt.toNat aa.toInt.toNat) + 2) (by omega)
                  have sz71 := sg_c hz71.2
                  have qz71 : z71.toInt = sg (B ((rn 32 32 B ln.toInt.toNat aa.toInt.toNat) + 2)) := by rw [mz71, ← hz71.1]; exact congrArg (fun z_ => (rt z_).toInt) (by omega)
                  refine lv_bipush (v := 97) hx hb dX11_word_79 (by decide) ?_
                  refine lv_icmp_lt (tgt := 97) hx hb dX11_word_81 (by decide) (fun c72 => ?_) (fun c72 => ?_)
                  · have c73 : z71.toInt < 97 := Int32.lt_iff_toInt_lt.mp c72
                    have i74 : iv z71 (-128) 96 := iv_Ll c73 iz71 (iv_k (x := 97) (k := 97) rfl) (by decide)
                    refine lv_aload_n hx hb dX11_word_97 rfl (lv_at hl 2 rfl) ?_
                    refine lv_iload_n hx hb dX11_word_98 rfl (lv_at hl 0 rfl) ?_
                    refine t_put C h tf3 of3 hu0 (by decide) (by decide) (by decide) wf_60 fw_60 (k := 3) rfl flw_X11_90 (Or.inr ⟨_, _, _, rfl, rfl⟩) (v := .int z59) rfl rfl ⟨_, rfl, (iv_w i63 (by decide))⟩ dX11_word_99 (fun f77 H locs h tf77 of77 hq ha_ hn_ hk_ => ?_)
                    have k78 := hk_ 2 _ (by decide) k5
                    have k79 := hk_ 1 _ (by decide) k6
                    have k80 := atp.tg k7 hq htq (by decide)
                    have k82 := ha_
                    refine lv_iconst (v := 1) hx hb dX11_word_102 (by decide) ?_
                    exact u_zret C h hr hQ ⟨by decide, by decide⟩ (⟨⟨by decide, by decide⟩, tf77, of77, (fun _ => (by omega)), (fun h_ => absurd h_ (by decide)), ⟨z59, k82, (iv_w i63 (by decide)), (by have n1_ : (1 : Int32).toInt = 1 := rfl; have n0_ : (0 : Int32).toInt = 0 := rfl; omega)⟩⟩) (Nat.le_of_ble_eq_true rfl) (Nat.le_of_ble_eq_true rfl) dX11_word_103
                  · have c75 : 97 ≤ z71.toInt := Int32.le_iff_toInt_le.mp (iv_nlt c72)
                    have i76 : iv z71 97 127 := iv_Er c75 (iv_k (x := 97) (k := 97) rfl) iz71 (by decide)
                    refine lv_aload_n hx hb dX11_word_84 rfl (lv_at hl 2 rfl) ?_
                    refine t_getfd C h tf3 hu0 (by decide) wf_60 (v := .ref tq) k6 fl_X11_9 dX11_word_85 ?_
                    refine lv_iload_n hx hb dX11_word_88 rfl (lv_at hl 0 rfl) ?_
                    refine e_bald C h tf3 htq (by decide) wf_61 k7 (iv_in i63 (by decide)) dX11_word_89 (fun z83 ez83 iz83 => ?_)
                    have mz83 := congrArg Int32.toInt ez83
                    have hz83 := hB ((rn 32 32 B ln.toInt.toNat aa.toInt.toNat) + 2) (by omega)
                    have sz83 := sg_c hz83.2
                    have qz83 : z83.toInt = sg (B ((rn 32 32 B ln.toInt.toNat aa.toInt.toNat) + 2)) := by rw [mz83, ← hz83.1]; exact congrArg (fun z_ => (rt z_).toInt) (by omega)
                    refine lv_bipush (v := 122) hx hb dX11_word_90 (by decide) ?_
                    refine lv_icmp_gt (tgt := 97) hx hb dX11_word_92 (by decide) (fun c84 => ?_) (fun c84 => ?_)
                    · have c85 : 122 < z83.toInt := Int32.lt_iff_toInt_lt.mp c84
                      have i86 : iv z83 123 127 := iv_Lr c85 (iv_k (x := 122) (k := 122) rfl) iz83 (by decide)
                      refine lv_aload_n hx hb dX11_word_97 rfl (lv_at hl 2 rfl) ?_
                      refine lv_iload_n hx hb dX11_word_98 rfl (lv_at hl 0 rfl) ?_
                      refine t_put C h tf3 of3 hu0 (by decide) (by decide) (by decide) wf_60 fw_60 (k := 3) rfl flw_X11_90 (Or.inr ⟨_, _, _, rfl, rfl⟩) (v := .int z59) rfl rfl ⟨_, rfl, (iv_w i63 (by decide))⟩ dX11_word_99 (fun f89 H locs h tf89 of89 hq ha_ hn_ hk_ => ?_)
                      have k90 := hk_ 2 _ (by decide) k5
                      have k91 := hk_ 1 _ (by decide) k6
                      have k92 := atp.tg k7 hq htq (by decide)
                      have k94 := ha_
                      refine lv_iconst (v := 1) hx hb dX11_word_102 (by decide) ?_
                      exact u_zret C h hr hQ ⟨by decide, by decide⟩ (⟨⟨by decide, by decide⟩, tf89, of89, (fun _ => (by omega)), (fun h_ => absurd h_ (by decide)), ⟨z59, k94, (iv_w i63 (by decide)), (by have n1_ : (1 : Int32).toInt = 1 := rfl; have n0_ : (0 : Int32).toInt = 0 := rfl; omega)⟩⟩) (Nat.le_of_ble_eq_true rfl) (Nat.le_of_ble_eq_true rfl) dX11_word_103
                    · have c87 : z83.toInt ≤ 122 := Int32.le_iff_toInt_le.mp (iv_nlt c84)
                      have i88 : iv z83 (-128) 122 := iv_El c87 iz83 (iv_k (x := 122) (k := 122) rfl) (by decide)
                      refine lv_iconst (v := 0) hx hb dX11_word_95 (by decide) ?_
                      exact u_zret C h hr hQ ⟨by decide, by decide⟩ (⟨⟨by decide, by decide⟩, tf3, of3, (fun h_ => absurd h_ (by decide)), (fun _ => (by omega)), ⟨aa1_f3, kpu0_3f3, ipu0_3f3, (by have n1_ : (1 : Int32).toInt = 1 := rfl; have n0_ : (0 : Int32).toInt = 0 := rfl; omega)⟩⟩) (Nat.le_of_ble_eq_true rfl) (Nat.le_of_ble_eq_true rfl) dX11_word_96
              · exact absurd c53 (by decide)
            · have c49 : z42.toInt ≠ 101 := fun z_ => c46 (Int32.toInt_inj.mp z_)
              refine lv_iconst (v := 0) hx hb dX11_word_47 (by decide) ?_
              exact u_zret C h hr hQ ⟨by decide, by decide⟩ (⟨⟨by decide, by decide⟩, tf3, of3, (fun h_ => absurd h_ (by decide)), (fun _ => (by omega)), ⟨aa1_f3, kpu0_3f3, ipu0_3f3, (by have n1_ : (1 : Int32).toInt = 1 := rfl; have n0_ : (0 : Int32).toInt = 0 := rfl; omega)⟩⟩) (Nat.le_of_ble_eq_true rfl) (Nat.le_of_ble_eq_true rfl) dX11_word_48
      · have c28 : z21.toInt ≠ 110 := fun z_ => c25 (Int32.toInt_inj.mp z_)
        refine lv_iconst (v := 0) hx hb dX11_word_47 (by decide) ?_
        exact u_zret C h hr hQ ⟨by decide, by decide⟩ (⟨⟨by decide, by decide⟩, tf3, of3, (fun h_ => absurd h_ (by decide)), (fun _ => (by omega)), ⟨aa1_f3, kpu0_3f3, ipu0_3f3, (by have n1_ : (1 : Int32).toInt = 1 := rfl; have n0_ : (0 : Int32).toInt = 0 := rfl; omega)⟩⟩) (Nat.le_of_ble_eq_true rfl) (Nat.le_of_ble_eq_true rfl) dX11_word_48
abbrev rm_s_X11_wordX2 : Room := { frames := 4, cells := 0, slots := 0, locals := 85 }
set_option maxRecDepth 100000 in
set_option maxHeartbeats 4000000 in
theorem s_X11_wordX2 (l : Launch) (D : va_G) (G : Nat → Nat) (b0 : Nat) (τ : Nat → Nat) (f : hM) (t : TI G 9 τ f) (u0 : Nat) (hu0 : τ u0 = 60) (ln : Int32) (hln : iv ln 0 200) (k_u0_2 : atp f u0 (fd 2 (.int ln))) (aa : Int32) (haa : iv aa 0 200) (k_u0_3 : atp f u0 (fd 3 (.int aa))) (tq : Nat) (htq : τ tq = 61) (k_u0_1 : atp f u0 (fd 1 (.ref tq))) (rt : Nat → Int32) (hRtq : atp f tq (eqc (.inl (G 0, 200, .inl rt)))) (B : Nat → Int) (hB : ∀ k : Nat, (k : Int) < ln.toInt → (rt k).toInt = sg (B k) ∧ 0 ≤ B k ∧ B k ≤ 255)  : mI l yX11_word cX11_word 4 (.boolean) rm_s_X11_wordX2 D G b0 f [.ref u0, .ref (G (20 + 2))] (fun r f1 => iv r 0 1 ∧ TI G 9 τ f1 ∧ Fr [60, 60004] τ f f1 ∧ (r.toInt ≠ 0 → (((((rn 32 32 B ln.toInt.toNat aa.toInt.toNat) + 1 : Nat) : Int) ≤ ln.toInt) ∧ B (rn 32 32 B ln.toInt.toNat aa.toInt.toNat) = 101 ∧ ¬ (((((rn 32 32 B ln.toInt.toNat aa.toInt.toNat) + 1 : Nat) : Int) < ln.toInt) ∧ 97 ≤ B ((rn 32 32 B ln.toInt.toNat aa.toInt.toNat) + 1) ∧ B ((rn 32 32 B ln.toInt.toNat aa.toInt.toNat) + 1) ≤ 122))) ∧ (r.toInt = 0 → ¬ (((((rn 32 32 B ln.toInt.toNat aa.toInt.toNat) + 1 : Nat) : Int) ≤ ln.toInt) ∧ B (rn 32 32 B ln.toInt.toNat aa.toInt.toNat) = 101 ∧ ¬ (((((rn 32 32 B ln.toInt.toNat aa.toInt.toNat) + 1 : Nat) : Int) < ln.toInt) ∧ 97 ≤ B ((rn 32 32 B ln.toInt.toNat aa.toInt.toNat) + 1) ∧ B ((rn 32 32 B ln.toInt.toNat aa.toInt.toNat) + 1) ≤ 122))) ∧ (∃ aa1 : Int32, atp f1 u0 (fd 3 (.int aa1)) ∧ iv aa1 0 200 ∧ (r.toInt ≠ 0 → aa1.toInt = (((rn 32 32 B ln.toInt.toNat aa.toInt.toNat) : Nat) : Int) + 1) ∧ (r.toInt = 0 → aa1.toInt = (((rn 32 32 B ln.toInt.toNat aa.toInt.toNat) : Nat) : Int)))) := by
  refine met2 (own := RX11) (by decide) rfl (Nat.le_of_ble_eq_true rfl) ?_
  intro p e s m args below meth c ls Q hQ C hr hini hl h
  have hl : lv_has ls 4 [(0, .ref u0), (1, .ref (G (20 + 2)))] := hl
  obtain ⟨hx, hb, hml, hown, hts, hE0, hlk⟩ := id C
  have o := Fr.rf [60, 60004] τ f
  refine lv_aload_n hx hb dX11_word_0 rfl (lv_at hl 0 rfl) ?_
  obtain ⟨_, r1⟩ := t_rec t hu0 (by decide) wf_60
  refine k_i (r_V C h hl (As := []) (rest := []) (s_X11_lookX l D G b0 τ f t u0 hu0 ln hln k_u0_2 aa haa k_u0_3 tq htq k_u0_1 rt hRtq B hB) r1 (Cn := RX11) (T := TX11) (N := 32) rfl rfl mk_X11_look w_1557 w_1559 w_40 w_1560 ⟨Nat.le_of_ble_eq_true rfl, Nat.le_of_ble_eq_true rfl⟩ rfl (Nat.le_of_ble_eq_true rfl) ⟨Nat.le_of_ble_eq_true rfl, Nat.le_of_ble_eq_true rfl⟩ rfl dX11_word_1) h (fun r2 f3 H locs p4 h => ?_)
  obtain ⟨ir2, tf3, ogf3, x0r2, ⟨aa1_f3, kpu0_3f3, ipu0_3f3, rpu0_3f3⟩⟩ := p4
  have of3 : Fr [60, 60004] τ f f3 := Fr.tr o ogf3 (by decide) (by decide)
  have k5 := atp.fk k_u0_2 ogf3 hu0 (by decide) (by decide)
  have k6 := atp.fk k_u0_1 ogf3 hu0 (by decide) (by decide)
  have k7 := atp.fr hRtq ogf3 htq (by decide)
  refine lv_istore_n (lv' := [(2, .int r2), (0, .ref u0), (1, .ref (G (20 + 2)))]) hx hb dX11_word_4 rfl hl (by decide) rfl (fun ls hl => ?_)
  refine lv_iconst (v := 0) hx hb dX11_word_5 (by decide) ?_
  refine lv_istore_n (lv' := [(3, .int 0), (2, .int r2), (0, .ref u0), (1, .ref (G (20 + 2)))]) hx hb dX11_word_6 rfl hl (by decide) rfl (fun ls hl => ?_)
  refine lv_iload_n hx hb dX11_word_7 rfl (lv_at hl 0 rfl) ?_
  refine lv_aload_n hx hb dX11_word_8 rfl (lv_at hl 3 rfl) ?_
  have hrv := vk_recv hE0.2.2.2.2.2.2.2.2.2.1 (i := 2) (by decide) h.2.2.1
  refine k_i (r_VK C h hl (As := []) (rest := [.int 0]) (c_length l D G b0 f3 2 (by decide)) hrv mk_J0_length_8abf5 w_1574 w_1252 w_1253 w_1254 ⟨(Nat.le_of_ble_eq_true rfl), (Nat.le_of_ble_eq_true rfl)⟩ rfl (Nat.le_of_ble_eq_true rfl) ⟨(Nat.le_of_ble_eq_true rfl), (Nat.le_of_ble_eq_true rfl)⟩ rfl dX11_word_9) h (fun r8 f9 H locs p10 h => ?_)
  obtain ⟨er8, rfl⟩ := p10
  obtain rfl : (1 : Int32) = r8 := by rw [er8]; decide
  refine lv_icmp_ge (tgt := 55) hx hb dX11_word_12 (by decide) (fun c11 => ?_) (fun c11 => ?_)
  · exact absurd c11 (by decide)
  · refine lv_aload_n hx hb dX11_word_15 rfl (lv_at hl 2 rfl) ?_
    refine t_getfd C h tf3 hu0 (by decide) wf_60 (v := .int aa1_f3) kpu0_3f3 fl_X11_90 dX11_word_16 ?_
    refine lv_iload_n hx hb dX11_word_19 rfl (lv_at hl 0 rfl) ?_
    refine i_addk hx hb dX11_word_20 ipu0_3f3 (k := 0) rfl (lo := 0) (hi := 200) (by decide) (fun z14 ez14 mz14 iz14 => ?_)
    refine lv_aload_n hx hb dX11_word_21 rfl (lv_at hl 2 rfl) ?_
    refine t_getfd C h tf3 hu0 (by decide) wf_60 (v := .int ln) k5 fl_X11_79 dX11_word_22 ?_
    refine lv_icmp_ge (tgt := 47) hx hb dX11_word_25 (by decide) (fun c15 => ?_) (fun c15 => ?_)
    · have c16 : ln.toInt ≤ z14.toInt := Int32.le_iff_toInt_le.mp c15
      refine lv_iconst (v := 0) hx hb dX11_word_47 (by decide) ?_
      exact u_zret C h hr hQ ⟨by decide, by decide⟩ (⟨⟨by decide, by decide⟩, tf3, of3, (fun h_ => absurd h_ (by decide)), (fun _ => (by omega)), ⟨aa1_f3, kpu0_3f3, ipu0_3f3, (by have n1_ : (1 : Int32).toInt = 1 := rfl; have n0_ : (0 : Int32).toInt = 0 := rfl; omega)⟩⟩) (Nat.le_of_ble_eq_true rfl) (Nat.le_of_ble_eq_true rfl) dX11_word_48
    · have c17 : z14.toInt < ln.toInt := Int32.lt_iff_toInt_lt.mp (iv_nle c15)
      have i18 : iv z14 0 199 := iv_Ll c17 iz14 hln (by decide)
      have i19 : iv ln 1 200 := iv_Lr c17 iz14 hln (by decide)
      refine lv_aload_n hx hb dX11_word_28 rfl (lv_at hl 2 rfl) ?_
      refine t_getfd C h tf3 hu0 (by decide) wf_60 (v := .ref tq) k6 fl_X11_9 dX11_word_29 ?_
      refine lv_aload_n hx hb dX11_word_32 rfl (lv_at hl 2 rfl) ?_
      refine t_getfd C h tf3 hu0 (by decide) wf_60 (v := .int aa1_f3) kpu0_3f3 fl_X11_90 dX11_word_33 ?_
      refine lv_iload_n hx hb dX11_word_36 rfl (lv_at hl 0 rfl) ?_
      refine i_addk hx hb dX11_word_37 ipu0_3f3 (k := 0) rfl (lo := 0) (hi := 200) (by decide) (fun z20 ez20 mz20 iz20 => ?_)
      refine e_bald C h tf3 htq (by decide) wf_61 k7 (ix_o (by omega)) dX11_word_38 (fun z21 ez21 iz21 => ?_)
      have mz21 := congrArg Int32.toInt ez21
      have hz21 := hB (rn 32 32 B ln.toInt.toNat aa.toInt.toNat) (by omega)
      have sz21 := sg_c hz21.2
      have qz21 : z21.toInt = sg (B (rn 32 32 B ln.toInt.toNat aa.toInt.toNat)) := by rw [mz21, ← hz21.1]; exact congrArg (fun z_ => (rt z_).toInt) (by omega)
      refine lv_aload_n hx hb dX11_word_39 rfl (lv_at hl 3 rfl) ?_
      refine lv_iload_n hx hb dX11_word_40 rfl (lv_at hl 0 rfl) ?_
      have hrv := vk_recv hE0.2.2.2.2.2.2.2.2.2.1 (i := 2) (by decide) h.2.2.1
      refine k_i (r_VK C h hl (As := [.int 0]) (rest := [.int z21]) (c_charAt l D G b0 f3 2 (by decide) 0 (by decide) (by unfold vp_in; decide)) hrv mk_J0_charAt_5068e w_1575 w_473 w_474 w_475 ⟨(Nat.le_of_ble_eq_true rfl), (Nat.le_of_ble_eq_true rfl)⟩ rfl (Nat.le_of_ble_eq_true rfl) ⟨(Nat.le_of_ble_eq_true rfl), (Nat.le_of_ble_eq_true rfl)⟩ rfl dX11_word_41) h (fun r22 f23 H locs p24 h => ?_)
      obtain ⟨er22, rfl⟩ := p24
      obtain rfl : (101 : Int32) = r22 := by rw [er22]; decide
      refine lv_icmp_eq (tgt := 49) hx hb dX11_word_44 (by decide) (fun c25 => ?_) (fun c25 => ?_)
      · have c26 : z21.toInt = 101 := congrArg Int32.toInt c25
        have i27 : iv z21 101 101 := iv_Q c26 iz21 (iv_k (x := 101) (k := 101) rfl) (by decide)
        refine lv_iinc (v := 1) (lv' := [(3, .int 1), (2, .int r2), (0, .ref u0), (1, .ref (G (20 + 2)))]) hx hb dX11_word_49 hl (k := 0) rfl (by decide) (by decide) rfl (fun ls hl => ?_)
        refine lv_goto (tgt := 7) hx hb dX11_word_52 (by decide) ?_
        refine lv_iload_n hx hb dX11_word_7 rfl (lv_at hl 0 rfl) ?_
        refine lv_aload_n hx hb dX11_word_8 rfl (lv_at hl 3 rfl) ?_
        have hrv := vk_recv hE0.2.2.2.2.2.2.2.2.2.1 (i := 2) (by decide) h.2.2.1
        refine k_i (r_VK C h hl (As := []) (rest := [.int 1]) (c_length l D G b0 f3 2 (by decide)) hrv mk_J0_length_8abf5 w_1574 w_1252 w_1253 w_1254 ⟨(Nat.le_of_ble_eq_true rfl), (Nat.le_of_ble_eq_true rfl)⟩ rfl (Nat.le_of_ble_eq_true rfl) ⟨(Nat.le_of_ble_eq_true rfl), (Nat.le_of_ble_eq_true rfl)⟩ rfl dX11_word_9) h (fun r29 f30 H locs p31 h => ?_)
        obtain ⟨er29, rfl⟩ := p31
        obtain rfl : (1 : Int32) = r29 := by rw [er29]; decide
        refine lv_icmp_ge (tgt := 55) hx hb dX11_word_12 (by decide) (fun c32 => ?_) (fun c32 => ?_)
        · refine lv_aload_n hx hb dX11_word_55 rfl (lv_at hl 2 rfl) ?_
          refine t_getfd C h tf3 hu0 (by decide) wf_60 (v := .int aa1_f3) kpu0_3f3 fl_X11_90 dX11_word_56 ?_
          refine lv_aload_n hx hb dX11_word_59 rfl (lv_at hl 3 rfl) ?_
          have hrv := vk_recv hE0.2.2.2.2.2.2.2.2.2.1 (i := 2) (by decide) h.2.2.1
          refine k_i (r_VK C h hl (As := []) (rest := [.int aa1_f3]) (c_length l D G b0 f3 2 (by decide)) hrv mk_J0_length_8abf5 w_1574 w_1252 w_1253 w_1254 ⟨(Nat.le_of_ble_eq_true rfl), (Nat.le_of_ble_eq_true rfl)⟩ rfl (Nat.le_of_ble_eq_true rfl) ⟨(Nat.le_of_ble_eq_true rfl), (Nat.le_of_ble_eq_true rfl)⟩ rfl dX11_word_60) h (fun r35 f36 H locs p37 h => ?_)
          obtain ⟨er35, rfl⟩ := p37
          obtain rfl : (1 : Int32) = r35 := by rw [er35]; decide
          refine i_addk hx hb dX11_word_63 ipu0_3f3 (k := 1) rfl (lo := 1) (hi := 201) (by decide) (fun z38 ez38 mz38 iz38 => ?_)
          refine lv_istore_n (lv' := [(3, .int z38), (2, .int r2), (0, .ref u0), (1, .ref (G (20 + 2)))]) hx hb dX11_word_64 rfl hl (by decide) rfl (fun ls hl => ?_)
          refine lv_iload_n hx hb dX11_word_65 rfl (lv_at hl 0 rfl) ?_
          refine lv_aload_n hx hb dX11_word_66 rfl (lv_at hl 2 rfl) ?_
          refine t_getfd C h tf3 hu0 (by decide) wf_60 (v := .int ln) k5 fl_X11_79 dX11_word_67 ?_
          refine lv_icmp_ge (tgt := 97) hx hb dX11_word_70 (by decide) (fun c39 => ?_) (fun c39 => ?_)
          · have c40 : ln.toInt ≤ z38.toInt := Int32.le_iff_toInt_le.mp c39
            refine lv_aload_n hx hb dX11_word_97 rfl (lv_at hl 2 rfl) ?_
            refine lv_iload_n hx hb dX11_word_98 rfl (lv_at hl 0 rfl) ?_
            refine t_put C h tf3 of3 hu0 (by decide) (by decide) (by decide) wf_60 fw_60 (k := 3) rfl flw_X11_90 (Or.inr ⟨_, _, _, rfl, rfl⟩) (v := .int z38) rfl rfl ⟨_, rfl, (show iv z38 0 200 from by omega)⟩ dX11_word_99 (fun f44 H locs h tf44 of44 hq ha_ hn_ hk_ => ?_)
            have k45 := hk_ 2 _ (by decide) k5
            have k46 := hk_ 1 _ (by decide) k6
            have k47 := atp.tg k7 hq htq (by decide)
            have k49 := ha_
            refine lv_iconst (v := 1) hx hb dX11_word_102 (by decide) ?_
            exact u_zret C h hr hQ ⟨by decide, by decide⟩ (⟨⟨by decide, by decide⟩, tf44, of44, (fun _ => (by omega)), (fun h_ => absurd h_ (by decide)), ⟨z38, k49, (show iv z38 0 200 from by omega), (by have n1_ : (1 : Int32).toInt = 1 := rfl; have n0_ : (0 : Int32).toInt = 0 := rfl; omega)⟩⟩) (Nat.le_of_ble_eq_true rfl) (Nat.le_of_ble_eq_true rfl) dX11_word_103
          · have c41 : z38.toInt < ln.toInt := Int32.lt_iff_toInt_lt.mp (iv_nle c39)
            have i42 : iv z38 1 199 := iv_Ll c41 iz38 i19 (by decide)
            have i43 : iv ln 2 200 := iv_Lr c41 iz38 i19 (by decide)
            refine lv_aload_n hx hb dX11_word_73 rfl (lv_at hl 2 rfl) ?_
            refine t_getfd C h tf3 hu0 (by decide) wf_60 (v := .ref tq) k6 fl_X11_9 dX11_word_74 ?_
            refine lv_iload_n hx hb dX11_word_77 rfl (lv_at hl 0 rfl) ?_
            refine e_bald C h tf3 htq (by decide) wf_61 k7 (iv_in i42 (by decide)) dX11_word_78 (fun z50 ez50 iz50 => ?_)
            have mz50 := congrArg Int32.toInt ez50
            have hz50 := hB ((rn 32 32 B ln.toInt.toNat aa.toInt.toNat) + 1) (by omega)
            have sz50 := sg_c hz50.2
            have qz50 : z50.toInt = sg (B ((rn 32 32 B ln.toInt.toNat aa.toInt.toNat) + 1)) := by rw [mz50, ← hz50.1]; exact congrArg (fun z_ => (rt z_).toInt) (by omega)
            refine lv_bipush (v := 97) hx hb dX11_word_79 (by decide) ?_
            refine lv_icmp_lt (tgt := 97) hx hb dX11_word_81 (by decide) (fun c51 => ?_) (fun c51 => ?_)
            · have c52 : z50.toInt < 97 := Int32.lt_iff_toInt_lt.mp c51
              have i53 : iv z50 (-128) 96 := iv_Ll c52 iz50 (iv_k (x := 97) (k := 97) rfl) (by decide)
              refine lv_aload_n hx hb dX11_word_97 rfl (lv_at hl 2 rfl) ?_
              refine lv_iload_n hx hb dX11_word_98 rfl (lv_at hl 0 rfl) ?_
              refine t_put C h tf3 of3 hu0 (by decide) (by decide) (by decide) wf_60 fw_60 (k := 3) rfl flw_X11_90 (Or.inr ⟨_, _, _, rfl, rfl⟩) (v := .int z38) rfl rfl ⟨_, rfl, (iv_w i42 (by decide))⟩ dX11_word_99 (fun f56 H locs h tf56 of56 hq ha_ hn_ hk_ => ?_)
              have k57 := hk_ 2 _ (by decide) k5
              have k58 := hk_ 1 _ (by decide) k6
              have k59 := atp.tg k7 hq htq (by decide)
              have k61 := ha_
              refine lv_iconst (v := 1) hx hb dX11_word_102 (by decide) ?_
              exact u_zret C h hr hQ ⟨by decide, by decide⟩ (⟨⟨by decide, by decide⟩, tf56, of56, (fun _ => (by omega)), (fun h_ => absurd h_ (by decide)), ⟨z38, k61, (iv_w i42 (by decide)), (by have n1_ : (1 : Int32).toInt = 1 := rfl; have n0_ : (0 : Int32).toInt = 0 := rfl; omega)⟩⟩) (Nat.le_of_ble_eq_true rfl) (Nat.le_of_ble_eq_true rfl) dX11_word_103
            · have c54 : 97 ≤ z50.toInt := Int32.le_iff_toInt_le.mp (iv_nlt c51)
              have i55 : iv z50 97 127 := iv_Er c54 (iv_k (x := 97) (k := 97) rfl) iz50 (by decide)
              refine lv_aload_n hx hb dX11_word_84 rfl (lv_at hl 2 rfl) ?_
              refine t_getfd C h tf3 hu0 (by decide) wf_60 (v := .ref tq) k6 fl_X11_9 dX11_word_85 ?_
              refine lv_iload_n hx hb dX11_word_88 rfl (lv_at hl 0 rfl) ?_
              refine e_bald C h tf3 htq (by decide) wf_61 k7 (iv_in i42 (by decide)) dX11_word_89 (fun z62 ez62 iz62 => ?_)
              have mz62 := congrArg Int32.toInt ez62
              have hz62 := hB ((rn 32 32 B ln.toInt.toNat aa.toInt.toNat) + 1) (by omega)
              have sz62 := sg_c hz62.2
              have qz62 : z62.toInt = sg (B ((rn 32 32 B ln.toInt.toNat aa.toInt.toNat) + 1)) := by rw [mz62, ← hz62.1]; exact congrArg (fun z_ => (rt z_).toInt) (by omega)
              refine lv_bipush (v := 122) hx hb dX11_word_90 (by decide) ?_
              refine lv_icmp_gt (tgt := 97) hx hb dX11_word_92 (by decide) (fun c63 => ?_) (fun c63 => ?_)
              · have c64 : 122 < z62.toInt := Int32.lt_iff_toInt_lt.mp c63
                have i65 : iv z62 123 127 := iv_Lr c64 (iv_k (x := 122) (k := 122) rfl) iz62 (by decide)
                refine lv_aload_n hx hb dX11_word_97 rfl (lv_at hl 2 rfl) ?_
                refine lv_iload_n hx hb dX11_word_98 rfl (lv_at hl 0 rfl) ?_
                refine t_put C h tf3 of3 hu0 (by decide) (by decide) (by decide) wf_60 fw_60 (k := 3) rfl flw_X11_90 (Or.inr ⟨_, _, _, rfl, rfl⟩) (v := .int z38) rfl rfl ⟨_, rfl, (iv_w i42 (by decide))⟩ dX11_word_99 (fun f68 H locs h tf68 of68 hq ha_ hn_ hk_ => ?_)
                have k69 := hk_ 2 _ (by decide) k5
                have k70 := hk_ 1 _ (by decide) k6
                have k71 := atp.tg k7 hq htq (by decide)
                have k73 := ha_
                refine lv_iconst (v := 1) hx hb dX11_word_102 (by decide) ?_
                exact u_zret C h hr hQ ⟨by decide, by decide⟩ (⟨⟨by decide, by decide⟩, tf68, of68, (fun _ => (by omega)), (fun h_ => absurd h_ (by decide)), ⟨z38, k73, (iv_w i42 (by decide)), (by have n1_ : (1 : Int32).toInt = 1 := rfl; have n0_ : (0 : Int32).toInt = 0 := rfl; omega)⟩⟩) (Nat.le_of_ble_eq_true rfl) (Nat.le_of_ble_eq_true rfl) dX11_word_103
              · have c66 : z62.toInt ≤ 122 := Int32.le_iff_toInt_le.mp (iv_nlt c63)
                have i67 : iv z62 (-128) 122 := iv_El c66 iz62 (iv_k (x := 122) (k := 122) rfl) (by decide)
                refine lv_iconst (v := 0) hx hb dX11_word_95 (by decide) ?_
                exact u_zret C h hr hQ ⟨by decide, by decide⟩ (⟨⟨by decide, by decide⟩, tf3, of3, (fun h_ => absurd h_ (by decide)), (fun _ => (by omega)), ⟨aa1_f3, kpu0_3f3, ipu0_3f3, (by have n1_ : (1 : Int32).toInt = 1 := rfl; have n0_ : (0 : Int32).toInt = 0 := rfl; omega)⟩⟩) (Nat.le_of_ble_eq_true rfl) (Nat.le_of_ble_eq_true rfl) dX11_word_96
        · exact absurd c32 (by decide)
      · have c28 : z21.toInt ≠ 101 := fun z_ => c25 (Int32.toInt_inj.mp z_)
        refine lv_iconst (v := 0) hx hb dX11_word_47 (by decide) ?_
        exact u_zret C h hr hQ ⟨by decide, by decide⟩ (⟨⟨by decide, by decide⟩, tf3, of3, (fun h_ => absurd h_ (by decide)), (fun _ => (by omega)), ⟨aa1_f3, kpu0_3f3, ipu0_3f3, (by have n1_ : (1 : Int32).toInt = 1 := rfl; have n0_ : (0 : Int32).toInt = 0 := rfl; omega)⟩⟩) (Nat.le_of_ble_eq_true rfl) (Nat.le_of_ble_eq_true rfl) dX11_word_48
abbrev rm_s_X11_wordX3 : Room := { frames := 4, cells := 0, slots := 0, locals := 85 }
set_option maxRecDepth 100000 in
set_option maxHeartbeats 4000000 in
theorem s_X11_wordX3 (l : Launch) (D : va_G) (G : Nat → Nat) (b0 : Nat) (τ : Nat → Nat) (f : hM) (t : TI G 9 τ f) (u0 : Nat) (hu0 : τ u0 = 60) (ln : Int32) (hln : iv ln 0 200) (k_u0_2 : atp f u0 (fd 2 (.int ln))) (aa : Int32) (haa : iv aa 0 200) (k_u0_3 : atp f u0 (fd 3 (.int aa))) (tq : Nat) (htq : τ tq = 61) (k_u0_1 : atp f u0 (fd 1 (.ref tq))) (rt : Nat → Int32) (hRtq : atp f tq (eqc (.inl (G 0, 200, .inl rt)))) (B : Nat → Int) (hB : ∀ k : Nat, (k : Int) < ln.toInt → (rt k).toInt = sg (B k) ∧ 0 ≤ B k ∧ B k ≤ 255)  : mI l yX11_word cX11_word 4 (.boolean) rm_s_X11_wordX3 D G b0 f [.ref u0, .ref (G (20 + 3))] (fun r f1 => iv r 0 1 ∧ TI G 9 τ f1 ∧ Fr [60, 60004] τ f f1 ∧ (r.toInt ≠ 0 → (((((rn 32 32 B ln.toInt.toNat aa.toInt.toNat) + 2 : Nat) : Int) ≤ ln.toInt) ∧ B (rn 32 32 B ln.toInt.toNat aa.toInt.toNat) = 115 ∧ B ((rn 32 32 B ln.toInt.toNat aa.toInt.toNat) + 1) = 101 ∧ ¬ (((((rn 32 32 B ln.toInt.toNat aa.toInt.toNat) + 2 : Nat) : Int) < ln.toInt) ∧ 97 ≤ B ((rn 32 32 B ln.toInt.toNat aa.toInt.toNat) + 2) ∧ B ((rn 32 32 B ln.toInt.toNat aa.toInt.toNat) + 2) ≤ 122))) ∧ (r.toInt = 0 → ¬ (((((rn 32 32 B ln.toInt.toNat aa.toInt.toNat) + 2 : Nat) : Int) ≤ ln.toInt) ∧ B (rn 32 32 B ln.toInt.toNat aa.toInt.toNat) = 115 ∧ B ((rn 32 32 B ln.toInt.toNat aa.toInt.toNat) + 1) = 101 ∧ ¬ (((((rn 32 32 B ln.toInt.toNat aa.toInt.toNat) + 2 : Nat) : Int) < ln.toInt) ∧ 97 ≤ B ((rn 32 32 B ln.toInt.toNat aa.toInt.toNat) + 2) ∧ B ((rn 32 32 B ln.toInt.toNat aa.toInt.toNat) + 2) ≤ 122))) ∧ (∃ aa1 : Int32, atp f1 u0 (fd 3 (.int aa1)) ∧ iv aa1 0 200 ∧ (r.toInt ≠ 0 → aa1.toInt = (((rn 32 32 B ln.toInt.toNat aa.toInt.toNat) : Nat) : Int) + 2) ∧ (r.toInt = 0 → aa1.toInt = (((rn 32 32 B ln.toInt.toNat aa.toInt.toNat) : Nat) : Int)))) := by
  refine met2 (own := RX11) (by decide) rfl (Nat.le_of_ble_eq_true rfl) ?_
  intro p e s m args below meth c ls Q hQ C hr hini hl h
  have hl : lv_has ls 4 [(0, .ref u0), (1, .ref (G (20 + 3)))] := hl
  obtain ⟨hx, hb, hml, hown, hts, hE0, hlk⟩ := id C
  have o := Fr.rf [60, 60004] τ f
  refine lv_aload_n hx hb dX11_word_0 rfl (lv_at hl 0 rfl) ?_
  obtain ⟨_, r1⟩ := t_rec t hu0 (by decide) wf_60
  refine k_i (r_V C h hl (As := []) (rest := []) (s_X11_lookX l D G b0 τ f t u0 hu0 ln hln k_u0_2 aa haa k_u0_3 tq htq k_u0_1 rt hRtq B hB) r1 (Cn := RX11) (T := TX11) (N := 32) rfl rfl mk_X11_look w_1557 w_1559 w_40 w_1560 ⟨Nat.le_of_ble_eq_true rfl, Nat.le_of_ble_eq_true rfl⟩ rfl (Nat.le_of_ble_eq_true rfl) ⟨Nat.le_of_ble_eq_true rfl, Nat.le_of_ble_eq_true rfl⟩ rfl dX11_word_1) h (fun r2 f3 H locs p4 h => ?_)
  obtain ⟨ir2, tf3, ogf3, x0r2, ⟨aa1_f3, kpu0_3f3, ipu0_3f3, rpu0_3f3⟩⟩ := p4
  have of3 : Fr [60, 60004] τ f f3 := Fr.tr o ogf3 (by decide) (by decide)
  have k5 := atp.fk k_u0_2 ogf3 hu0 (by decide) (by decide)
  have k6 := atp.fk k_u0_1 ogf3 hu0 (by decide) (by decide)
  have k7 := atp.fr hRtq ogf3 htq (by decide)
  refine lv_istore_n (lv' := [(2, .int r2), (0, .ref u0), (1, .ref (G (20 + 3)))]) hx hb dX11_word_4 rfl hl (by decide) rfl (fun ls hl => ?_)
  refine lv_iconst (v := 0) hx hb dX11_word_5 (by decide) ?_
  refine lv_istore_n (lv' := [(3, .int 0), (2, .int r2), (0, .ref u0), (1, .ref (G (20 + 3)))]) hx hb dX11_word_6 rfl hl (by decide) rfl (fun ls hl => ?_)
  refine lv_iload_n hx hb dX11_word_7 rfl (lv_at hl 0 rfl) ?_
  refine lv_aload_n hx hb dX11_word_8 rfl (lv_at hl 3 rfl) ?_
  have hrv := vk_recv hE0.2.2.2.2.2.2.2.2.2.1 (i := 3) (by decide) h.2.2.1
  refine k_i (r_VK C h hl (As := []) (rest := [.int 0]) (c_length l D G b0 f3 3 (by decide)) hrv mk_J0_length_8abf5 w_1574 w_1252 w_1253 w_1254 ⟨(Nat.le_of_ble_eq_true rfl), (Nat.le_of_ble_eq_true rfl)⟩ rfl (Nat.le_of_ble_eq_true rfl) ⟨(Nat.le_of_ble_eq_true rfl), (Nat.le_of_ble_eq_true rfl)⟩ rfl dX11_word_9) h (fun r8 f9 H locs p10 h => ?_)
  obtain ⟨er8, rfl⟩ := p10
  obtain rfl : (2 : Int32) = r8 := by rw [er8]; decide
  refine lv_icmp_ge (tgt := 55) hx hb dX11_word_12 (by decide) (fun c11 => ?_) (fun c11 => ?_)
  · exact absurd c11 (by decide)
  · refine lv_aload_n hx hb dX11_word_15 rfl (lv_at hl 2 rfl) ?_
    refine t_getfd C h tf3 hu0 (by decide) wf_60 (v := .int aa1_f3) kpu0_3f3 fl_X11_90 dX11_word_16 ?_
    refine lv_iload_n hx hb dX11_word_19 rfl (lv_at hl 0 rfl) ?_
    refine i_addk hx hb dX11_word_20 ipu0_3f3 (k := 0) rfl (lo := 0) (hi := 200) (by decide) (fun z14 ez14 mz14 iz14 => ?_)
    refine lv_aload_n hx hb dX11_word_21 rfl (lv_at hl 2 rfl) ?_
    refine t_getfd C h tf3 hu0 (by decide) wf_60 (v := .int ln) k5 fl_X11_79 dX11_word_22 ?_
    refine lv_icmp_ge (tgt := 47) hx hb dX11_word_25 (by decide) (fun c15 => ?_) (fun c15 => ?_)
    · have c16 : ln.toInt ≤ z14.toInt := Int32.le_iff_toInt_le.mp c15
      refine lv_iconst (v := 0) hx hb dX11_word_47 (by decide) ?_
      exact u_zret C h hr hQ ⟨by decide, by decide⟩ (⟨⟨by decide, by decide⟩, tf3, of3, (fun h_ => absurd h_ (by decide)), (fun _ => (by omega)), ⟨aa1_f3, kpu0_3f3, ipu0_3f3, (by have n1_ : (1 : Int32).toInt = 1 := rfl; have n0_ : (0 : Int32).toInt = 0 := rfl; omega)⟩⟩) (Nat.le_of_ble_eq_true rfl) (Nat.le_of_ble_eq_true rfl) dX11_word_48
    · have c17 : z14.toInt < ln.toInt := Int32.lt_iff_toInt_lt.mp (iv_nle c15)
      have i18 : iv z14 0 199 := iv_Ll c17 iz14 hln (by decide)
      have i19 : iv ln 1 200 := iv_Lr c17 iz14 hln (by decide)
      refine lv_aload_n hx hb dX11_word_28 rfl (lv_at hl 2 rfl) ?_
      refine t_getfd C h tf3 hu0 (by decide) wf_60 (v := .ref tq) k6 fl_X11_9 dX11_word_29 ?_
      refine lv_aload_n hx hb dX11_word_32 rfl (lv_at hl 2 rfl) ?_
      refine t_getfd C h tf3 hu0 (by decide) wf_60 (v := .int aa1_f3) kpu0_3f3 fl_X11_90 dX11_word_33 ?_
      refine lv_iload_n hx hb dX11_word_36 rfl (lv_at hl 0 rfl) ?_
      refine i_addk hx hb dX11_word_37 ipu0_3f3 (k := 0) rfl (lo := 0) (hi := 200) (by decide) (fun z20 ez20 mz20 iz20 => ?_)
      refine e_bald C h tf3 htq (by decide) wf_61 k7 (ix_o (by omega)) dX11_word_38 (fun z21 ez21 iz21 => ?_)
      have mz21 := congrArg Int32.toInt ez21
      have hz21 := hB (rn 32 32 B ln.toInt.toNat aa.toInt.toNat) (by omega)
      have sz21 := sg_c hz21.2
      have qz21 : z21.toInt = sg (B (rn 32 32 B ln.toInt.toNat aa.toInt.toNat)) := by rw [mz21, ← hz21.1]; exact congrArg (fun z_ => (rt z_).toInt) (by omega)
      refine lv_aload_n hx hb dX11_word_39 rfl (lv_at hl 3 rfl) ?_
      refine lv_iload_n hx hb dX11_word_40 rfl (lv_at hl 0 rfl) ?_
      have hrv := vk_recv hE0.2.2.2.2.2.2.2.2.2.1 (i := 3) (by decide) h.2.2.1
      refine k_i (r_VK C h hl (As := [.int 0]) (rest := [.int z21]) (c_charAt l D G b0 f3 3 (by decide) 0 (by decide) (by unfold vp_in; decide)) hrv mk_J0_charAt_5068e w_1575 w_473 w_474 w_475 ⟨(Nat.le_of_ble_eq_true rfl), (Nat.le_of_ble_eq_true rfl)⟩ rfl (Nat.le_of_ble_eq_true rfl) ⟨(Nat.le_of_ble_eq_true rfl), (Nat.le_of_ble_eq_true rfl)⟩ rfl dX11_word_41) h (fun r22 f23 H locs p24 h => ?_)
      obtain ⟨er22, rfl⟩ := p24
      obtain rfl : (115 : Int32) = r22 := by rw [er22]; decide
      refine lv_icmp_eq (tgt := 49) hx hb dX11_word_44 (by decide) (fun c25 => ?_) (fun c25 => ?_)
      · have c26 : z21.toInt = 115 := congrArg Int32.toInt c25
        have i27 : iv z21 115 115 := iv_Q c26 iz21 (iv_k (x := 115) (k := 115) rfl) (by decide)
        refine lv_iinc (v := 1) (lv' := [(3, .int 1), (2, .int r2), (0, .ref u0), (1, .ref (G (20 + 3)))]) hx hb dX11_word_49 hl (k := 0) rfl (by decide) (by decide) rfl (fun ls hl => ?_)
        refine lv_goto (tgt := 7) hx hb dX11_word_52 (by decide) ?_
        refine lv_iload_n hx hb dX11_word_7 rfl (lv_at hl 0 rfl) ?_
        refine lv_aload_n hx hb dX11_word_8 rfl (lv_at hl 3 rfl) ?_
        have hrv := vk_recv hE0.2.2.2.2.2.2.2.2.2.1 (i := 3) (by decide) h.2.2.1
        refine k_i (r_VK C h hl (As := []) (rest := [.int 1]) (c_length l D G b0 f3 3 (by decide)) hrv mk_J0_length_8abf5 w_1574 w_1252 w_1253 w_1254 ⟨(Nat.le_of_ble_eq_true rfl), (Nat.le_of_ble_eq_true rfl)⟩ rfl (Nat.le_of_ble_eq_true rfl) ⟨(Nat.le_of_ble_eq_true rfl), (Nat.le_of_ble_eq_true rfl)⟩ rfl dX11_word_9) h (fun r29 f30 H locs p31 h => ?_)
        obtain ⟨er29, rfl⟩ := p31
        obtain rfl : (2 : Int32) = r29 := by rw [er29]; decide
        refine lv_icmp_ge (tgt := 55) hx hb dX11_word_12 (by decide) (fun c32 => ?_) (fun c32 => ?_)
        · exact absurd c32 (by decide)
        · refine lv_aload_n hx hb dX11_word_15 rfl (lv_at hl 2 rfl) ?_
          refine t_getfd C h tf3 hu0 (by decide) wf_60 (v := .int aa1_f3) kpu0_3f3 fl_X11_90 dX11_word_16 ?_
          refine lv_iload_n hx hb dX11_word_19 rfl (lv_at hl 0 rfl) ?_
          refine i_addk hx hb dX11_word_20 ipu0_3f3 (k := 1) rfl (lo := 1) (hi := 201) (by decide) (fun z35 ez35 mz35 iz35 => ?_)
          refine lv_aload_n hx hb dX11_word_21 rfl (lv_at hl 2 rfl) ?_
          refine t_getfd C h tf3 hu0 (by decide) wf_60 (v := .int ln) k5 fl_X11_79 dX11_word_22 ?_
          refine lv_icmp_ge (tgt := 47) hx hb dX11_word_25 (by decide) (fun c36 => ?_) (fun c36 => ?_)
          · have c37 : ln.toInt ≤ z35.toInt := Int32.le_iff_toInt_le.mp c36
            refine lv_iconst (v := 0) hx hb dX11_word_47 (by decide) ?_
            exact u_zret C h hr hQ ⟨by decide, by decide⟩ (⟨⟨by decide, by decide⟩, tf3, of3, (fun h_ => absurd h_ (by decide)), (fun _ => (by omega)), ⟨aa1_f3, kpu0_3f3, ipu0_3f3, (by have n1_ : (1 : Int32).toInt = 1 := rfl; have n0_ : (0 : Int32).toInt = 0 := rfl; omega)⟩⟩) (Nat.le_of_ble_eq_true rfl) (Nat.le_of_ble_eq_true rfl) dX11_word_48
          · have c38 : z35.toInt < ln.toInt := Int32.lt_iff_toInt_lt.mp (iv_nle c36)
            have i39 : iv z35 1 199 := iv_Ll c38 iz35 i19 (by decide)
            have i40 : iv ln 2 200 := iv_Lr c38 iz35 i19 (by decide)
            refine lv_aload_n hx hb dX11_word_28 rfl (lv_at hl 2 rfl) ?_
            refine t_getfd C h tf3 hu0 (by decide) wf_60 (v := .ref tq) k6 fl_X11_9 dX11_word_29 ?_
            refine lv_aload_n hx hb dX11_word_32 rfl (lv_at hl 2 rfl) ?_
            refine t_getfd C h tf3 hu0 (by decide) wf_60 (v := .int aa1_f3) kpu0_3f3 fl_X11_90 dX11_word_33 ?_
            refine lv_iload_n hx hb dX11_word_36 rfl (lv_at hl 0 rfl) ?_
            refine i_addk hx hb dX11_word_37 ipu0_3f3 (k := 1) rfl (lo := 1) (hi := 201) (by decide) (fun z41 ez41 mz41 iz41 => ?_)
            refine e_bald C h tf3 htq (by decide) wf_61 k7 (ix_o (by omega)) dX11_word_38 (fun z42 ez42 iz42 => ?_)
            have mz42 := congrArg Int32.toInt ez42
            have hz42 := hB ((rn 32 32 B ln.toInt.toNat aa.toInt.toNat) + 1) (by omega)
            have sz42 := sg_c hz42.2
            have qz42 : z42.toInt = sg (B ((rn 32 32 B ln.toInt.toNat aa.toInt.toNat) + 1)) := by rw [mz42, ← hz42.1]; exact congrArg (fun z_ => (rt z_).toInt) (by omega)
            refine lv_aload_n hx hb dX11_word_39 rfl (lv_at hl 3 rfl) ?_
            refine lv_iload_n hx hb dX11_word_40 rfl (lv_at hl 0 rfl) ?_
            have hrv := vk_recv hE0.2.2.2.2.2.2.2.2.2.1 (i := 3) (by decide) h.2.2.1
            refine k_i (r_VK C h hl (As := [.int 1]) (rest := [.int z42]) (c_charAt l D G b0 f3 3 (by decide) 1 (by decide) (by unfold vp_in; decide)) hrv mk_J0_charAt_5068e w_1575 w_473 w_474 w_475 ⟨(Nat.le_of_ble_eq_true rfl), (Nat.le_of_ble_eq_true rfl)⟩ rfl (Nat.le_of_ble_eq_true rfl) ⟨(Nat.le_of_ble_eq_true rfl), (Nat.le_of_ble_eq_true rfl)⟩ rfl dX11_word_41) h (fun r43 f44 H locs p45 h => ?_)
            obtain ⟨er43, rfl⟩ := p45
            obtain rfl : (101 : Int32) = r43 := by rw [er43]; decide
            refine lv_icmp_eq (tgt := 49) hx hb dX11_word_44 (by decide) (fun c46 => ?_) (fun c46 => ?_)
            · have c47 : z42.toInt = 101 := congrArg Int32.toInt c46
              have i48 : iv z42 101 101 := iv_Q c47 iz42 (iv_k (x := 101) (k := 101) rfl) (by decide)
              refine lv_iinc (v := 2) (lv' := [(3, .int 2), (2, .int r2), (0, .ref u0), (1, .ref (G (20 + 3)))]) hx hb dX11_word_49 hl (k := 0) rfl (by decide) (by decide) rfl (fun ls hl => ?_)
              refine lv_goto (tgt := 7) hx hb dX11_word_52 (by decide) ?_
              refine lv_iload_n hx hb dX11_word_7 rfl (lv_at hl 0 rfl) ?_
              refine lv_aload_n hx hb dX11_word_8 rfl (lv_at hl 3 rfl) ?_
              have hrv := vk_recv hE0.2.2.2.2.2.2.2.2.2.1 (i := 3) (by decide) h.2.2.1
              refine k_i (r_VK C h hl (As := []) (rest := [.int 2]) (c_length l D G b0 f3 3 (by decide)) hrv mk_J0_length_8abf5 w_1574 w_1252 w_1253 w_1254 ⟨(Nat.le_of_ble_eq_true rfl), (Nat.le_of_ble_eq_true rfl)⟩ rfl (Nat.le_of_ble_eq_true rfl) ⟨(Nat.le_of_ble_eq_true rfl), (Nat.le_of_ble_eq_true rfl)⟩ rfl dX11_word_9) h (fun r50 f51 H locs p52 h => ?_)
              obtain ⟨er50, rfl⟩ := p52
              obtain rfl : (2 : Int32) = r50 := by rw [er50]; decide
              refine lv_icmp_ge (tgt := 55) hx hb dX11_word_12 (by decide) (fun c53 => ?_) (fun c53 => ?_)
              · refine lv_aload_n hx hb dX11_word_55 rfl (lv_at hl 2 rfl) ?_
                refine t_getfd C h tf3 hu0 (by decide) wf_60 (v := .int aa1_f3) kpu0_3f3 fl_X11_90 dX11_word_56 ?_
                refine lv_aload_n hx hb dX11_word_59 rfl (lv_at hl 3 rfl) ?_
                have hrv := vk_recv hE0.2.2.2.2.2.2.2.2.2.1 (i := 3) (by decide) h.2.2.1
                refine k_i (r_VK C h hl (As := []) (rest := [.int aa1_f3]) (c_length l D G b0 f3 3 (by decide)) hrv mk_J0_length_8abf5 w_1574 w_1252 w_1253 w_1254 ⟨(Nat.le_of_ble_eq_true rfl), (Nat.le_of_ble_eq_true rfl)⟩ rfl (Nat.le_of_ble_eq_true rfl) ⟨(Nat.le_of_ble_eq_true rfl), (Nat.le_of_ble_eq_true rfl)⟩ rfl dX11_word_60) h (fun r56 f57 H locs p58 h => ?_)
                obtain ⟨er56, rfl⟩ := p58
                obtain rfl : (2 : Int32) = r56 := by rw [er56]; decide
                refine i_addk hx hb dX11_word_63 ipu0_3f3 (k := 2) rfl (lo := 2) (hi := 202) (by decide) (fun z59 ez59 mz59 iz59 => ?_)
                refine lv_istore_n (lv' := [(3, .int z59), (2, .int r2), (0, .ref u0), (1, .ref (G (20 + 3)))]) hx hb dX11_word_64 rfl hl (by decide) rfl (fun ls hl => ?_)
                refine lv_iload_n hx hb dX11_word_65 rfl (lv_at hl 0 rfl) ?_
                refine lv_aload_n hx hb dX11_word_66 rfl (lv_at hl 2 rfl) ?_
                refine t_getfd C h tf3 hu0 (by decide) wf_60 (v := .int ln) k5 fl_X11_79 dX11_word_67 ?_
                refine lv_icmp_ge (tgt := 97) hx hb dX11_word_70 (by decide) (fun c60 => ?_) (fun c60 => ?_)
                · have c61 : ln.toInt ≤ z59.toInt := Int32.le_iff_toInt_le.mp c60
                  refine lv_aload_n hx hb dX11_word_97 rfl (lv_at hl 2 rfl) ?_
                  refine lv_iload_n hx hb dX11_word_98 rfl (lv_at hl 0 rfl) ?_
                  refine t_put C h tf3 of3 hu0 (by decide) (by decide) (by decide) wf_60 fw_60 (k := 3) rfl flw_X11_90 (Or.inr ⟨_, _, _, rfl, rfl⟩) (v := .int z59) rfl rfl ⟨_, rfl, (show iv z59 0 200 from by omega)⟩ dX11_word_99 (fun f65 H locs h tf65 of65 hq ha_ hn_ hk_ => ?_)
                  have k66 := hk_ 2 _ (by decide) k5
                  have k67 := hk_ 1 _ (by decide) k6
                  have k68 := atp.tg k7 hq htq (by decide)
                  have k70 := ha_
                  refine lv_iconst (v := 1) hx hb dX11_word_102 (by decide) ?_
                  exact u_zret C h hr hQ ⟨by decide, by decide⟩ (⟨⟨by decide, by decide⟩, tf65, of65, (fun _ => (by omega)), (fun h_ => absurd h_ (by decide)), ⟨z59, k70, (show iv z59 0 200 from by omega), (by have n1_ : (1 : Int32).toInt = 1 := rfl; have n0_ : (0 : Int32).toInt = 0 := rfl; omega)⟩⟩) (Nat.le_of_ble_eq_true rfl) (Nat.le_of_ble_eq_true rfl) dX11_word_103
                · have c62 : z59.toInt < ln.toInt := Int32.lt_iff_toInt_lt.mp (iv_nle c60)
                  have i63 : iv z59 2 199 := iv_Ll c62 iz59 i40 (by decide)
                  have i64 : iv ln 3 200 := iv_Lr c62 iz59 i40 (by decide)
                  refine lv_aload_n hx hb dX11_word_73 rfl (lv_at hl 2 rfl) ?_
                  refine t_getfd C h tf3 hu0 (by decide) wf_60 (v := .ref tq) k6 fl_X11_9 dX11_word_74 ?_
                  refine lv_iload_n hx hb dX11_word_77 rfl (lv_at hl 0 rfl) ?_
                  refine e_bald C h tf3 htq (by decide) wf_61 k7 (iv_in i63 (by decide)) dX11_word_78 (fun z71 ez71 iz71 => ?_)
                  have mz71 := congrArg Int32.toInt ez71
                  have hz71 := hB ((rn 32 32 B ln.toInt.toNat aa.toInt.toNat) + 2) (by omega)
                  have sz71 := sg_c hz71.2
                  have qz71 : z71.toInt = sg (B ((rn 32 32 B ln.toInt.toNat aa.toInt.toNat) + 2)) := by rw [mz71, ← hz71.1]; exact congrArg (fun z_ => (rt z_).toInt) (by omega)
                  refine lv_bipush (v := 97) hx hb dX11_word_79 (by decide) ?_
                  refine lv_icmp_lt (tgt := 97) hx hb dX11_word_81 (by decide) (fun c72 => ?_) (fun c72 => ?_)
                  · have c73 : z71.toInt < 97 := Int32.lt_iff_toInt_lt.mp c72
                    have i74 : iv z71 (-128) 96 := iv_Ll c73 iz71 (iv_k (x := 97) (k := 97) rfl) (by decide)
                    refine lv_aload_n hx hb dX11_word_97 rfl (lv_at hl 2 rfl) ?_
                    refine lv_iload_n hx hb dX11_word_98 rfl (lv_at hl 0 rfl) ?_
                    refine t_put C h tf3 of3 hu0 (by decide) (by decide) (by decide) wf_60 fw_60 (k := 3) rfl flw_X11_90 (Or.inr ⟨_, _, _, rfl, rfl⟩) (v := .int z59) rfl rfl ⟨_, rfl, (iv_w i63 (by decide))⟩ dX11_word_99 (fun f77 H locs h tf77 of77 hq ha_ hn_ hk_ => ?_)
                    have k78 := hk_ 2 _ (by decide) k5
                    have k79 := hk_ 1 _ (by decide) k6
                    have k80 := atp.tg k7 hq htq (by decide)
                    have k82 := ha_
                    refine lv_iconst (v := 1) hx hb dX11_word_102 (by decide) ?_
                    exact u_zret C h hr hQ ⟨by decide, by decide⟩ (⟨⟨by decide, by decide⟩, tf77, of77, (fun _ => (by omega)), (fun h_ => absurd h_ (by decide)), ⟨z59, k82, (iv_w i63 (by decide)), (by have n1_ : (1 : Int32).toInt = 1 := rfl; have n0_ : (0 : Int32).toInt = 0 := rfl; omega)⟩⟩) (Nat.le_of_ble_eq_true rfl) (Nat.le_of_ble_eq_true rfl) dX11_word_103
                  · have c75 : 97 ≤ z71.toInt := Int32.le_iff_toInt_le.mp (iv_nlt c72)
                    have i76 : iv z71 97 127 := iv_Er c75 (iv_k (x := 97) (k := 97) rfl) iz71 (by decide)
                    refine lv_aload_n hx hb dX11_word_84 rfl (lv_at hl 2 rfl) ?_
                    refine t_getfd C h tf3 hu0 (by decide) wf_60 (v := .ref tq) k6 fl_X11_9 dX11_word_85 ?_
                    refine lv_iload_n hx hb dX11_word_88 rfl (lv_at hl 0 rfl) ?_
                    refine e_bald C h tf3 htq (by decide) wf_61 k7 (iv_in i63 (by decide)) dX11_word_89 (fun z83 ez83 iz83 => ?_)
                    have mz83 := congrArg Int32.toInt ez83
                    have hz83 := hB ((rn 32 32 B ln.toInt.toNat aa.toInt.toNat) + 2) (by omega)
                    have sz83 := sg_c hz83.2
                    have qz83 : z83.toInt = sg (B ((rn 32 32 B ln.toInt.toNat aa.toInt.toNat) + 2)) := by rw [mz83, ← hz83.1]; exact congrArg (fun z_ => (rt z_).toInt) (by omega)
                    refine lv_bipush (v := 122) hx hb dX11_word_90 (by decide) ?_
                    refine lv_icmp_gt (tgt := 97) hx hb dX11_word_92 (by decide) (fun c84 => ?_) (fun c84 => ?_)
                    · have c85 : 122 < z83.toInt := Int32.lt_iff_toInt_lt.mp c84
                      have i86 : iv z83 123 127 := iv_Lr c85 (iv_k (x := 122) (k := 122) rfl) iz83 (by decide)
                      refine lv_aload_n hx hb dX11_word_97 rfl (lv_at hl 2 rfl) ?_
                      refine lv_iload_n hx hb dX11_word_98 rfl (lv_at hl 0 rfl) ?_
                      refine t_put C h tf3 of3 hu0 (by decide) (by decide) (by decide) wf_60 fw_60 (k := 3) rfl flw_X11_90 (Or.inr ⟨_, _, _, rfl, rfl⟩) (v := .int z59) rfl rfl ⟨_, rfl, (iv_w i63 (by decide))⟩ dX11_word_99 (fun f89 H locs h tf89 of89 hq ha_ hn_ hk_ => ?_)
                      have k90 := hk_ 2 _ (by decide) k5
                      have k91 := hk_ 1 _ (by decide) k6
                      have k92 := atp.tg k7 hq htq (by decide)
                      have k94 := ha_
                      refine lv_iconst (v := 1) hx hb dX11_word_102 (by decide) ?_
                      exact u_zret C h hr hQ ⟨by decide, by decide⟩ (⟨⟨by decide, by decide⟩, tf89, of89, (fun _ => (by omega)), (fun h_ => absurd h_ (by decide)), ⟨z59, k94, (iv_w i63 (by decide)), (by have n1_ : (1 : Int32).toInt = 1 := rfl; have n0_ : (0 : Int32).toInt = 0 := rfl; omega)⟩⟩) (Nat.le_of_ble_eq_true rfl) (Nat.le_of_ble_eq_true rfl) dX11_word_103
                    · have c87 : z83.toInt ≤ 122 := Int32.le_iff_toInt_le.mp (iv_nlt c84)
                      have i88 : iv z83 (-128) 122 := iv_El c87 iz83 (iv_k (x := 122) (k := 122) rfl) (by decide)
                      refine lv_iconst (v := 0) hx hb dX11_word_95 (by decide) ?_
                      exact u_zret C h hr hQ ⟨by decide, by decide⟩ (⟨⟨by decide, by decide⟩, tf3, of3, (fun h_ => absurd h_ (by decide)), (fun _ => (by omega)), ⟨aa1_f3, kpu0_3f3, ipu0_3f3, (by have n1_ : (1 : Int32).toInt = 1 := rfl; have n0_ : (0 : Int32).toInt = 0 := rfl; omega)⟩⟩) (Nat.le_of_ble_eq_true rfl) (Nat.le_of_ble_eq_true rfl) dX11_word_96
              · exact absurd c53 (by decide)
            · have c49 : z42.toInt ≠ 101 := fun z_ => c46 (Int32.toInt_inj.mp z_)
              refine lv_iconst (v := 0) hx hb dX11_word_47 (by decide) ?_
              exact u_zret C h hr hQ ⟨by decide, by decide⟩ (⟨⟨by decide, by decide⟩, tf3, of3, (fun h_ => absurd h_ (by decide)), (fun _ => (by omega)), ⟨aa1_f3, kpu0_3f3, ipu0_3f3, (by have n1_ : (1 : Int32).toInt = 1 := rfl; have n0_ : (0 : Int32).toInt = 0 := rfl; omega)⟩⟩) (Nat.le_of_ble_eq_true rfl) (Nat.le_of_ble_eq_true rfl) dX11_word_48
      · have c28 : z21.toInt ≠ 115 := fun z_ => c25 (Int32.toInt_inj.mp z_)
        refine lv_iconst (v := 0) hx hb dX11_word_47 (by decide) ?_
        exact u_zret C h hr hQ ⟨by decide, by decide⟩ (⟨⟨by decide, by decide⟩, tf3, of3, (fun h_ => absurd h_ (by decide)), (fun _ => (by omega)), ⟨aa1_f3, kpu0_3f3, ipu0_3f3, (by have n1_ : (1 : Int32).toInt = 1 := rfl; have n0_ : (0 : Int32).toInt = 0 := rfl; omega)⟩⟩) (Nat.le_of_ble_eq_true rfl) (Nat.le_of_ble_eq_true rfl) dX11_word_48
abbrev rm_s_X11_wordX4 : Room := { frames := 4, cells := 0, slots := 0, locals := 85 }
set_option maxRecDepth 100000 in
set_option maxHeartbeats 4000000 in
theorem s_X11_wordX4 (l : Launch) (D : va_G) (G : Nat → Nat) (b0 : Nat) (τ : Nat → Nat) (f : hM) (t : TI G 9 τ f) (u0 : Nat) (hu0 : τ u0 = 60) (ln : Int32) (hln : iv ln 0 200) (k_u0_2 : atp f u0 (fd 2 (.int ln))) (aa : Int32) (haa : iv aa 0 200) (k_u0_3 : atp f u0 (fd 3 (.int aa))) (tq : Nat) (htq : τ tq = 61) (k_u0_1 : atp f u0 (fd 1 (.ref tq))) (rt : Nat → Int32) (hRtq : atp f tq (eqc (.inl (G 0, 200, .inl rt)))) (B : Nat → Int) (hB : ∀ k : Nat, (k : Int) < ln.toInt → (rt k).toInt = sg (B k) ∧ 0 ≤ B k ∧ B k ≤ 255)  : mI l yX11_word cX11_word 4 (.boolean) rm_s_X11_wordX4 D G b0 f [.ref u0, .ref (G (20 + 4))] (fun r f1 => iv r 0 1 ∧ TI G 9 τ f1 ∧ Fr [60, 60004] τ f f1 ∧ (r.toInt ≠ 0 → (((((rn 32 32 B ln.toInt.toNat aa.toInt.toNat) + 1 : Nat) : Int) ≤ ln.toInt) ∧ B (rn 32 32 B ln.toInt.toNat aa.toInt.toNat) = 115 ∧ ¬ (((((rn 32 32 B ln.toInt.toNat aa.toInt.toNat) + 1 : Nat) : Int) < ln.toInt) ∧ 97 ≤ B ((rn 32 32 B ln.toInt.toNat aa.toInt.toNat) + 1) ∧ B ((rn 32 32 B ln.toInt.toNat aa.toInt.toNat) + 1) ≤ 122))) ∧ (r.toInt = 0 → ¬ (((((rn 32 32 B ln.toInt.toNat aa.toInt.toNat) + 1 : Nat) : Int) ≤ ln.toInt) ∧ B (rn 32 32 B ln.toInt.toNat aa.toInt.toNat) = 115 ∧ ¬ (((((rn 32 32 B ln.toInt.toNat aa.toInt.toNat) + 1 : Nat) : Int) < ln.toInt) ∧ 97 ≤ B ((rn 32 32 B ln.toInt.toNat aa.toInt.toNat) + 1) ∧ B ((rn 32 32 B ln.toInt.toNat aa.toInt.toNat) + 1) ≤ 122))) ∧ (∃ aa1 : Int32, atp f1 u0 (fd 3 (.int aa1)) ∧ iv aa1 0 200 ∧ (r.toInt ≠ 0 → aa1.toInt = (((rn 32 32 B ln.toInt.toNat aa.toInt.toNat) : Nat) : Int) + 1) ∧ (r.toInt = 0 → aa1.toInt = (((rn 32 32 B ln.toInt.toNat aa.toInt.toNat) : Nat) : Int)))) := by
  refine met2 (own := RX11) (by decide) rfl (Nat.le_of_ble_eq_true rfl) ?_
  intro p e s m args below meth c ls Q hQ C hr hini hl h
  have hl : lv_has ls 4 [(0, .ref u0), (1, .ref (G (20 + 4)))] := hl
  obtain ⟨hx, hb, hml, hown, hts, hE0, hlk⟩ := id C
  have o := Fr.rf [60, 60004] τ f
  refine lv_aload_n hx hb dX11_word_0 rfl (lv_at hl 0 rfl) ?_
  obtain ⟨_, r1⟩ := t_rec t hu0 (by decide) wf_60
  refine k_i (r_V C h hl (As := []) (rest := []) (s_X11_lookX l D G b0 τ f t u0 hu0 ln hln k_u0_2 aa haa k_u0_3 tq htq k_u0_1 rt hRtq B hB) r1 (Cn := RX11) (T := TX11) (N := 32) rfl rfl mk_X11_look w_1557 w_1559 w_40 w_1560 ⟨Nat.le_of_ble_eq_true rfl, Nat.le_of_ble_eq_true rfl⟩ rfl (Nat.le_of_ble_eq_true rfl) ⟨Nat.le_of_ble_eq_true rfl, Nat.le_of_ble_eq_true rfl⟩ rfl dX11_word_1) h (fun r2 f3 H locs p4 h => ?_)
  obtain ⟨ir2, tf3, ogf3, x0r2, ⟨aa1_f3, kpu0_3f3, ipu0_3f3, rpu0_3f3⟩⟩ := p4
  have of3 : Fr [60, 60004] τ f f3 := Fr.tr o ogf3 (by decide) (by decide)
  have k5 := atp.fk k_u0_2 ogf3 hu0 (by decide) (by decide)
  have k6 := atp.fk k_u0_1 ogf3 hu0 (by decide) (by decide)
  have k7 := atp.fr hRtq ogf3 htq (by decide)
  refine lv_istore_n (lv' := [(2, .int r2), (0, .ref u0), (1, .ref (G (20 + 4)))]) hx hb dX11_word_4 rfl hl (by decide) rfl (fun ls hl => ?_)
  refine lv_iconst (v := 0) hx hb dX11_word_5 (by decide) ?_
  refine lv_istore_n (lv' := [(3, .int 0), (2, .int r2), (0, .ref u0), (1, .ref (G (20 + 4)))]) hx hb dX11_word_6 rfl hl (by decide) rfl (fun ls hl => ?_)
  refine lv_iload_n hx hb dX11_word_7 rfl (lv_at hl 0 rfl) ?_
  refine lv_aload_n hx hb dX11_word_8 rfl (lv_at hl 3 rfl) ?_
  have hrv := vk_recv hE0.2.2.2.2.2.2.2.2.2.1 (i := 4) (by decide) h.2.2.1
  refine k_i (r_VK C h hl (As := []) (rest := [.int 0]) (c_length l D G b0 f3 4 (by decide)) hrv mk_J0_length_8abf5 w_1574 w_1252 w_1253 w_1254 ⟨(Nat.le_of_ble_eq_true rfl), (Nat.le_of_ble_eq_true rfl)⟩ rfl (Nat.le_of_ble_eq_true rfl) ⟨(Nat.le_of_ble_eq_true rfl), (Nat.le_of_ble_eq_true rfl)⟩ rfl dX11_word_9) h (fun r8 f9 H locs p10 h => ?_)
  obtain ⟨er8, rfl⟩ := p10
  obtain rfl : (1 : Int32) = r8 := by rw [er8]; decide
  refine lv_icmp_ge (tgt := 55) hx hb dX11_word_12 (by decide) (fun c11 => ?_) (fun c11 => ?_)
  · exact absurd c11 (by decide)
  · refine lv_aload_n hx hb dX11_word_15 rfl (lv_at hl 2 rfl) ?_
    refine t_getfd C h tf3 hu0 (by decide) wf_60 (v := .int aa1_f3) kpu0_3f3 fl_X11_90 dX11_word_16 ?_
    refine lv_iload_n hx hb dX11_word_19 rfl (lv_at hl 0 rfl) ?_
    refine i_addk hx hb dX11_word_20 ipu0_3f3 (k := 0) rfl (lo := 0) (hi := 200) (by decide) (fun z14 ez14 mz14 iz14 => ?_)
    refine lv_aload_n hx hb dX11_word_21 rfl (lv_at hl 2 rfl) ?_
    refine t_getfd C h tf3 hu0 (by decide) wf_60 (v := .int ln) k5 fl_X11_79 dX11_word_22 ?_
    refine lv_icmp_ge (tgt := 47) hx hb dX11_word_25 (by decide) (fun c15 => ?_) (fun c15 => ?_)
    · have c16 : ln.toInt ≤ z14.toInt := Int32.le_iff_toInt_le.mp c15
      refine lv_iconst (v := 0) hx hb dX11_word_47 (by decide) ?_
      exact u_zret C h hr hQ ⟨by decide, by decide⟩ (⟨⟨by decide, by decide⟩, tf3, of3, (fun h_ => absurd h_ (by decide)), (fun _ => (by omega)), ⟨aa1_f3, kpu0_3f3, ipu0_3f3, (by have n1_ : (1 : Int32).toInt = 1 := rfl; have n0_ : (0 : Int32).toInt = 0 := rfl; omega)⟩⟩) (Nat.le_of_ble_eq_true rfl) (Nat.le_of_ble_eq_true rfl) dX11_word_48
    · have c17 : z14.toInt < ln.toInt := Int32.lt_iff_toInt_lt.mp (iv_nle c15)
      have i18 : iv z14 0 199 := iv_Ll c17 iz14 hln (by decide)
      have i19 : iv ln 1 200 := iv_Lr c17 iz14 hln (by decide)
      refine lv_aload_n hx hb dX11_word_28 rfl (lv_at hl 2 rfl) ?_
      refine t_getfd C h tf3 hu0 (by decide) wf_60 (v := .ref tq) k6 fl_X11_9 dX11_word_29 ?_
      refine lv_aload_n hx hb dX11_word_32 rfl (lv_at hl 2 rfl) ?_
      refine t_getfd C h tf3 hu0 (by decide) wf_60 (v := .int aa1_f3) kpu0_3f3 fl_X11_90 dX11_word_33 ?_
      refine lv_iload_n hx hb dX11_word_36 rfl (lv_at hl 0 rfl) ?_
      refine i_addk hx hb dX11_word_37 ipu0_3f3 (k := 0) rfl (lo := 0) (hi := 200) (by decide) (fun z20 ez20 mz20 iz20 => ?_)
      refine e_bald C h tf3 htq (by decide) wf_61 k7 (ix_o (by omega)) dX11_word_38 (fun z21 ez21 iz21 => ?_)
      have mz21 := congrArg Int32.toInt ez21
      have hz21 := hB (rn 32 32 B ln.toInt.toNat aa.toInt.toNat) (by omega)
      have sz21 := sg_c hz21.2
      have qz21 : z21.toInt = sg (B (rn 32 32 B ln.toInt.toNat aa.toInt.toNat)) := by rw [mz21, ← hz21.1]; exact congrArg (fun z_ => (rt z_).toInt) (by omega)
      refine lv_aload_n hx hb dX11_word_39 rfl (lv_at hl 3 rfl) ?_
      refine lv_iload_n hx hb dX11_word_40 rfl (lv_at hl 0 rfl) ?_
      have hrv := vk_recv hE0.2.2.2.2.2.2.2.2.2.1 (i := 4) (by decide) h.2.2.1
      refine k_i (r_VK C h hl (As := [.int 0]) (rest := [.int z21]) (c_charAt l D G b0 f3 4 (by decide) 0 (by decide) (by unfold vp_in; decide)) hrv mk_J0_charAt_5068e w_1575 w_473 w_474 w_475 ⟨(Nat.le_of_ble_eq_true rfl), (Nat.le_of_ble_eq_true rfl)⟩ rfl (Nat.le_of_ble_eq_true rfl) ⟨(Nat.le_of_ble_eq_true rfl), (Nat.le_of_ble_eq_true rfl)⟩ rfl dX11_word_41) h (fun r22 f23 H locs p24 h => ?_)
      obtain ⟨er22, rfl⟩ := p24
      obtain rfl : (115 : Int32) = r22 := by rw [er22]; decide
      refine lv_icmp_eq (tgt := 49) hx hb dX11_word_44 (by decide) (fun c25 => ?_) (fun c25 => ?_)
      · have c26 : z21.toInt = 115 := congrArg Int32.toInt c25
        have i27 : iv z21 115 115 := iv_Q c26 iz21 (iv_k (x := 115) (k := 115) rfl) (by decide)
        refine lv_iinc (v := 1) (lv' := [(3, .int 1), (2, .int r2), (0, .ref u0), (1, .ref (G (20 + 4)))]) hx hb dX11_word_49 hl (k := 0) rfl (by decide) (by decide) rfl (fun ls hl => ?_)
        refine lv_goto (tgt := 7) hx hb dX11_word_52 (by decide) ?_
        refine lv_iload_n hx hb dX11_word_7 rfl (lv_at hl 0 rfl) ?_
        refine lv_aload_n hx hb dX11_word_8 rfl (lv_at hl 3 rfl) ?_
        have hrv := vk_recv hE0.2.2.2.2.2.2.2.2.2.1 (i := 4) (by decide) h.2.2.1
        refine k_i (r_VK C h hl (As := []) (rest := [.int 1]) (c_length l D G b0 f3 4 (by decide)) hrv mk_J0_length_8abf5 w_1574 w_1252 w_1253 w_1254 ⟨(Nat.le_of_ble_eq_true rfl), (Nat.le_of_ble_eq_true rfl)⟩ rfl (Nat.le_of_ble_eq_true rfl) ⟨(Nat.le_of_ble_eq_true rfl), (Nat.le_of_ble_eq_true rfl)⟩ rfl dX11_word_9) h (fun r29 f30 H locs p31 h => ?_)
        obtain ⟨er29, rfl⟩ := p31
        obtain rfl : (1 : Int32) = r29 := by rw [er29]; decide
        refine lv_icmp_ge (tgt := 55) hx hb dX11_word_12 (by decide) (fun c32 => ?_) (fun c32 => ?_)
        · refine lv_aload_n hx hb dX11_word_55 rfl (lv_at hl 2 rfl) ?_
          refine t_getfd C h tf3 hu0 (by decide) wf_60 (v := .int aa1_f3) kpu0_3f3 fl_X11_90 dX11_word_56 ?_
          refine lv_aload_n hx hb dX11_word_59 rfl (lv_at hl 3 rfl) ?_
          have hrv := vk_recv hE0.2.2.2.2.2.2.2.2.2.1 (i := 4) (by decide) h.2.2.1
          refine k_i (r_VK C h hl (As := []) (rest := [.int aa1_f3]) (c_length l D G b0 f3 4 (by decide)) hrv mk_J0_length_8abf5 w_1574 w_1252 w_1253 w_1254 ⟨(Nat.le_of_ble_eq_true rfl), (Nat.le_of_ble_eq_true rfl)⟩ rfl (Nat.le_of_ble_eq_true rfl) ⟨(Nat.le_of_ble_eq_true rfl), (Nat.le_of_ble_eq_true rfl)⟩ rfl dX11_word_60) h (fun r35 f36 H locs p37 h => ?_)
          obtain ⟨er35, rfl⟩ := p37
          obtain rfl : (1 : Int32) = r35 := by rw [er35]; decide
          refine i_addk hx hb dX11_word_63 ipu0_3f3 (k := 1) rfl (lo := 1) (hi := 201) (by decide) (fun z38 ez38 mz38 iz38 => ?_)
          refine lv_istore_n (lv' := [(3, .int z38), (2, .int r2), (0, .ref u0), (1, .ref (G (20 + 4)))]) hx hb dX11_word_64 rfl hl (by decide) rfl (fun ls hl => ?_)
          refine lv_iload_n hx hb dX11_word_65 rfl (lv_at hl 0 rfl) ?_
          refine lv_aload_n hx hb dX11_word_66 rfl (lv_at hl 2 rfl) ?_
          refine t_getfd C h tf3 hu0 (by decide) wf_60 (v := .int ln) k5 fl_X11_79 dX11_word_67 ?_
          refine lv_icmp_ge (tgt := 97) hx hb dX11_word_70 (by decide) (fun c39 => ?_) (fun c39 => ?_)
          · have c40 : ln.toInt ≤ z38.toInt := Int32.le_iff_toInt_le.mp c39
            refine lv_aload_n hx hb dX11_word_97 rfl (lv_at hl 2 rfl) ?_
            refine lv_iload_n hx hb dX11_word_98 rfl (lv_at hl 0 rfl) ?_
            refine t_put C h tf3 of3 hu0 (by decide) (by decide) (by decide) wf_60 fw_60 (k := 3) rfl flw_X11_90 (Or.inr ⟨_, _, _, rfl, rfl⟩) (v := .int z38) rfl rfl ⟨_, rfl, (show iv z38 0 200 from by omega)⟩ dX11_word_99 (fun f44 H locs h tf44 of44 hq ha_ hn_ hk_ => ?_)
            have k45 := hk_ 2 _ (by decide) k5
            have k46 := hk_ 1 _ (by decide) k6
            have k47 := atp.tg k7 hq htq (by decide)
            have k49 := ha_
            refine lv_iconst (v := 1) hx hb dX11_word_102 (by decide) ?_
            exact u_zret C h hr hQ ⟨by decide, by decide⟩ (⟨⟨by decide, by decide⟩, tf44, of44, (fun _ => (by omega)), (fun h_ => absurd h_ (by decide)), ⟨z38, k49, (show iv z38 0 200 from by omega), (by have n1_ : (1 : Int32).toInt = 1 := rfl; have n0_ : (0 : Int32).toInt = 0 := rfl; omega)⟩⟩) (Nat.le_of_ble_eq_true rfl) (Nat.le_of_ble_eq_true rfl) dX11_word_103
          · have c41 : z38.toInt < ln.toInt := Int32.lt_iff_toInt_lt.mp (iv_nle c39)
            have i42 : iv z38 1 199 := iv_Ll c41 iz38 i19 (by decide)
            have i43 : iv ln 2 200 := iv_Lr c41 iz38 i19 (by decide)
            refine lv_aload_n hx hb dX11_word_73 rfl (lv_at hl 2 rfl) ?_
            refine t_getfd C h tf3 hu0 (by decide) wf_60 (v := .ref tq) k6 fl_X11_9 dX11_word_74 ?_
            refine lv_iload_n hx hb dX11_word_77 rfl (lv_at hl 0 rfl) ?_
            refine e_bald C h tf3 htq (by decide) wf_61 k7 (iv_in i42 (by decide)) dX11_word_78 (fun z50 ez50 iz50 => ?_)
            have mz50 := congrArg Int32.toInt ez50
            have hz50 := hB ((rn 32 32 B ln.toInt.toNat aa.toInt.toNat) + 1) (by omega)
            have sz50 := sg_c hz50.2
            have qz50 : z50.toInt = sg (B ((rn 32 32 B ln.toInt.toNat aa.toInt.toNat) + 1)) := by rw [mz50, ← hz50.1]; exact congrArg (fun z_ => (rt z_).toInt) (by omega)
            refine lv_bipush (v := 97) hx hb dX11_word_79 (by decide) ?_
            refine lv_icmp_lt (tgt := 97) hx hb dX11_word_81 (by decide) (fun c51 => ?_) (fun c51 => ?_)
            · have c52 : z50.toInt < 97 := Int32.lt_iff_toInt_lt.mp c51
              have i53 : iv z50 (-128) 96 := iv_Ll c52 iz50 (iv_k (x := 97) (k := 97) rfl) (by decide)
              refine lv_aload_n hx hb dX11_word_97 rfl (lv_at hl 2 rfl) ?_
              refine lv_iload_n hx hb dX11_word_98 rfl (lv_at hl 0 rfl) ?_
              refine t_put C h tf3 of3 hu0 (by decide) (by decide) (by decide) wf_60 fw_60 (k := 3) rfl flw_X11_90 (Or.inr ⟨_, _, _, rfl, rfl⟩) (v := .int z38) rfl rfl ⟨_, rfl, (iv_w i42 (by decide))⟩ dX11_word_99 (fun f56 H locs h tf56 of56 hq ha_ hn_ hk_ => ?_)
              have k57 := hk_ 2 _ (by decide) k5
              have k58 := hk_ 1 _ (by decide) k6
              have k59 := atp.tg k7 hq htq (by decide)
              have k61 := ha_
              refine lv_iconst (v := 1) hx hb dX11_word_102 (by decide) ?_
              exact u_zret C h hr hQ ⟨by decide, by decide⟩ (⟨⟨by decide, by decide⟩, tf56, of56, (fun _ => (by omega)), (fun h_ => absurd h_ (by decide)), ⟨z38, k61, (iv_w i42 (by decide)), (by have n1_ : (1 : Int32).toInt = 1 := rfl; have n0_ : (0 : Int32).toInt = 0 := rfl; omega)⟩⟩) (Nat.le_of_ble_eq_true rfl) (Nat.le_of_ble_eq_true rfl) dX11_word_103
            · have c54 : 97 ≤ z50.toInt := Int32.le_iff_toInt_le.mp (iv_nlt c51)
              have i55 : iv z50 97 127 := iv_Er c54 (iv_k (x := 97) (k := 97) rfl) iz50 (by decide)
              refine lv_aload_n hx hb dX11_word_84 rfl (lv_at hl 2 rfl) ?_
              refine t_getfd C h tf3 hu0 (by decide) wf_60 (v := .ref tq) k6 fl_X11_9 dX11_word_85 ?_
              refine lv_iload_n hx hb dX11_word_88 rfl (lv_at hl 0 rfl) ?_
              refine e_bald C h tf3 htq (by decide) wf_61 k7 (iv_in i42 (by decide)) dX11_word_89 (fun z62 ez62 iz62 => ?_)
              have mz62 := congrArg Int32.toInt ez62
              have hz62 := hB ((rn 32 32 B ln.toInt.toNat aa.toInt.toNat) + 1) (by omega)
              have sz62 := sg_c hz62.2
              have qz62 : z62.toInt = sg (B ((rn 32 32 B ln.toInt.toNat aa.toInt.toNat) + 1)) := by rw [mz62, ← hz62.1]; exact congrArg (fun z_ => (rt z_).toInt) (by omega)
              refine lv_bipush (v := 122) hx hb dX11_word_90 (by decide) ?_
              refine lv_icmp_gt (tgt := 97) hx hb dX11_word_92 (by decide) (fun c63 => ?_) (fun c63 => ?_)
              · have c64 : 122 < z62.toInt := Int32.lt_iff_toInt_lt.mp c63
                have i65 : iv z62 123 127 := iv_Lr c64 (iv_k (x := 122) (k := 122) rfl) iz62 (by decide)
                refine lv_aload_n hx hb dX11_word_97 rfl (lv_at hl 2 rfl) ?_
                refine lv_iload_n hx hb dX11_word_98 rfl (lv_at hl 0 rfl) ?_
                refine t_put C h tf3 of3 hu0 (by decide) (by decide) (by decide) wf_60 fw_60 (k := 3) rfl flw_X11_90 (Or.inr ⟨_, _, _, rfl, rfl⟩) (v := .int z38) rfl rfl ⟨_, rfl, (iv_w i42 (by decide))⟩ dX11_word_99 (fun f68 H locs h tf68 of68 hq ha_ hn_ hk_ => ?_)
                have k69 := hk_ 2 _ (by decide) k5
                have k70 := hk_ 1 _ (by decide) k6
                have k71 := atp.tg k7 hq htq (by decide)
                have k73 := ha_
                refine lv_iconst (v := 1) hx hb dX11_word_102 (by decide) ?_
                exact u_zret C h hr hQ ⟨by decide, by decide⟩ (⟨⟨by decide, by decide⟩, tf68, of68, (fun _ => (by omega)), (fun h_ => absurd h_ (by decide)), ⟨z38, k73, (iv_w i42 (by decide)), (by have n1_ : (1 : Int32).toInt = 1 := rfl; have n0_ : (0 : Int32).toInt = 0 := rfl; omega)⟩⟩) (Nat.le_of_ble_eq_true rfl) (Nat.le_of_ble_eq_true rfl) dX11_word_103
              · have c66 : z62.toInt ≤ 122 := Int32.le_iff_toInt_le.mp (iv_nlt c63)
                have i67 : iv z62 (-128) 122 := iv_El c66 iz62 (iv_k (x := 122) (k := 122) rfl) (by decide)
                refine lv_iconst (v := 0) hx hb dX11_word_95 (by decide) ?_
                exact u_zret C h hr hQ ⟨by decide, by decide⟩ (⟨⟨by decide, by decide⟩, tf3, of3, (fun h_ => absurd h_ (by decide)), (fun _ => (by omega)), ⟨aa1_f3, kpu0_3f3, ipu0_3f3, (by have n1_ : (1 : Int32).toInt = 1 := rfl; have n0_ : (0 : Int32).toInt = 0 := rfl; omega)⟩⟩) (Nat.le_of_ble_eq_true rfl) (Nat.le_of_ble_eq_true rfl) dX11_word_96
        · exact absurd c32 (by decide)
      · have c28 : z21.toInt ≠ 115 := fun z_ => c25 (Int32.toInt_inj.mp z_)
        refine lv_iconst (v := 0) hx hb dX11_word_47 (by decide) ?_
        exact u_zret C h hr hQ ⟨by decide, by decide⟩ (⟨⟨by decide, by decide⟩, tf3, of3, (fun h_ => absurd h_ (by decide)), (fun _ => (by omega)), ⟨aa1_f3, kpu0_3f3, ipu0_3f3, (by have n1_ : (1 : Int32).toInt = 1 := rfl; have n0_ : (0 : Int32).toInt = 0 := rfl; omega)⟩⟩) (Nat.le_of_ble_eq_true rfl) (Nat.le_of_ble_eq_true rfl) dX11_word_48
abbrev rm_s_X11_wordX5 : Room := { frames := 4, cells := 0, slots := 0, locals := 85 }
set_option maxRecDepth 100000 in
set_option maxHeartbeats 4000000 in
theorem s_X11_wordX5 (l : Launch) (D : va_G) (G : Nat → Nat) (b0 : Nat) (τ : Nat → Nat) (f : hM) (t : TI G 9 τ f) (u0 : Nat) (hu0 : τ u0 = 60) (ln : Int32) (hln : iv ln 0 200) (k_u0_2 : atp f u0 (fd 2 (.int ln))) (aa : Int32) (haa : iv aa 0 200) (k_u0_3 : atp f u0 (fd 3 (.int aa))) (tq : Nat) (htq : τ tq = 61) (k_u0_1 : atp f u0 (fd 1 (.ref tq))) (rt : Nat → Int32) (hRtq : atp f tq (eqc (.inl (G 0, 200, .inl rt)))) (B : Nat → Int) (hB : ∀ k : Nat, (k : Int) < ln.toInt → (rt k).toInt = sg (B k) ∧ 0 ≤ B k ∧ B k ≤ 255)  : mI l yX11_word cX11_word 4 (.boolean) rm_s_X11_wordX5 D G b0 f [.ref u0, .ref (G (20 + 5))] (fun r f1 => iv r 0 1 ∧ TI G 9 τ f1 ∧ Fr [60, 60004] τ f f1 ∧ (r.toInt ≠ 0 → (((((rn 32 32 B ln.toInt.toNat aa.toInt.toNat) + 2 : Nat) : Int) ≤ ln.toInt) ∧ B (rn 32 32 B ln.toInt.toNat aa.toInt.toNat) = 115 ∧ B ((rn 32 32 B ln.toInt.toNat aa.toInt.toNat) + 1) = 119 ∧ ¬ (((((rn 32 32 B ln.toInt.toNat aa.toInt.toNat) + 2 : Nat) : Int) < ln.toInt) ∧ 97 ≤ B ((rn 32 32 B ln.toInt.toNat aa.toInt.toNat) + 2) ∧ B ((rn 32 32 B ln.toInt.toNat aa.toInt.toNat) + 2) ≤ 122))) ∧ (r.toInt = 0 → ¬ (((((rn 32 32 B ln.toInt.toNat aa.toInt.toNat) + 2 : Nat) : Int) ≤ ln.toInt) ∧ B (rn 32 32 B ln.toInt.toNat aa.toInt.toNat) = 115 ∧ B ((rn 32 32 B ln.toInt.toNat aa.toInt.toNat) + 1) = 119 ∧ ¬ (((((rn 32 32 B ln.toInt.toNat aa.toInt.toNat) + 2 : Nat) : Int) < ln.toInt) ∧ 97 ≤ B ((rn 32 32 B ln.toInt.toNat aa.toInt.toNat) + 2) ∧ B ((rn 32 32 B ln.toInt.toNat aa.toInt.toNat) + 2) ≤ 122))) ∧ (∃ aa1 : Int32, atp f1 u0 (fd 3 (.int aa1)) ∧ iv aa1 0 200 ∧ (r.toInt ≠ 0 → aa1.toInt = (((rn 32 32 B ln.toInt.toNat aa.toInt.toNat) : Nat) : Int) + 2) ∧ (r.toInt = 0 → aa1.toInt = (((rn 32 32 B ln.toInt.toNat aa.toInt.toNat) : Nat) : Int)))) := by
  refine met2 (own := RX11) (by decide) rfl (Nat.le_of_ble_eq_true rfl) ?_
  intro p e s m args below meth c ls Q hQ C hr hini hl h
  have hl : lv_has ls 4 [(0, .ref u0), (1, .ref (G (20 + 5)))] := hl
  obtain ⟨hx, hb, hml, hown, hts, hE0, hlk⟩ := id C
  have o := Fr.rf [60, 60004] τ f
  refine lv_aload_n hx hb dX11_word_0 rfl (lv_at hl 0 rfl) ?_
  obtain ⟨_, r1⟩ := t_rec t hu0 (by decide) wf_60
  refine k_i (r_V C h hl (As := []) (rest := []) (s_X11_lookX l D G b0 τ f t u0 hu0 ln hln k_u0_2 aa haa k_u0_3 tq htq k_u0_1 rt hRtq B hB) r1 (Cn := RX11) (T := TX11) (N := 32) rfl rfl mk_X11_look w_1557 w_1559 w_40 w_1560 ⟨Nat.le_of_ble_eq_true rfl, Nat.le_of_ble_eq_true rfl⟩ rfl (Nat.le_of_ble_eq_true rfl) ⟨Nat.le_of_ble_eq_true rfl, Nat.le_of_ble_eq_true rfl⟩ rfl dX11_word_1) h (fun r2 f3 H locs p4 h => ?_)
  obtain ⟨ir2, tf3, ogf3, x0r2, ⟨aa1_f3, kpu0_3f3, ipu0_3f3, rpu0_3f3⟩⟩ := p4
  have of3 : Fr [60, 60004] τ f f3 := Fr.tr o ogf3 (by decide) (by decide)
  have k5 := atp.fk k_u0_2 ogf3 hu0 (by decide) (by decide)
  have k6 := atp.fk k_u0_1 ogf3 hu0 (by decide) (by decide)
  have k7 := atp.fr hRtq ogf3 htq (by decide)
  refine lv_istore_n (lv' := [(2, .int r2), (0, .ref u0), (1, .ref (G (20 + 5)))]) hx hb dX11_word_4 rfl hl (by decide) rfl (fun ls hl => ?_)
  refine lv_iconst (v := 0) hx hb dX11_word_5 (by decide) ?_
  refine lv_istore_n (lv' := [(3, .int 0), (2, .int r2), (0, .ref u0), (1, .ref (G (20 + 5)))]) hx hb dX11_word_6 rfl hl (by decide) rfl (fun ls hl => ?_)
  refine lv_iload_n hx hb dX11_word_7 rfl (lv_at hl 0 rfl) ?_
  refine lv_aload_n hx hb dX11_word_8 rfl (lv_at hl 3 rfl) ?_
  have hrv := vk_recv hE0.2.2.2.2.2.2.2.2.2.1 (i := 5) (by decide) h.2.2.1
  refine k_i (r_VK C h hl (As := []) (rest := [.int 0]) (c_length l D G b0 f3 5 (by decide)) hrv mk_J0_length_8abf5 w_1574 w_1252 w_1253 w_1254 ⟨(Nat.le_of_ble_eq_true rfl), (Nat.le_of_ble_eq_true rfl)⟩ rfl (Nat.le_of_ble_eq_true rfl) ⟨(Nat.le_of_ble_eq_true rfl), (Nat.le_of_ble_eq_true rfl)⟩ rfl dX11_word_9) h (fun r8 f9 H locs p10 h => ?_)
  obtain ⟨er8, rfl⟩ := p10
  obtain rfl : (2 : Int32) = r8 := by rw [er8]; decide
  refine lv_icmp_ge (tgt := 55) hx hb dX11_word_12 (by decide) (fun c11 => ?_) (fun c11 => ?_)
  · exact absurd c11 (by decide)
  · refine lv_aload_n hx hb dX11_word_15 rfl (lv_at hl 2 rfl) ?_
    refine t_getfd C h tf3 hu0 (by decide) wf_60 (v := .int aa1_f3) kpu0_3f3 fl_X11_90 dX11_word_16 ?_
    refine lv_iload_n hx hb dX11_word_19 rfl (lv_at hl 0 rfl) ?_
    refine i_addk hx hb dX11_word_20 ipu0_3f3 (k := 0) rfl (lo := 0) (hi := 200) (by decide) (fun z14 ez14 mz14 iz14 => ?_)
    refine lv_aload_n hx hb dX11_word_21 rfl (lv_at hl 2 rfl) ?_
    refine t_getfd C h tf3 hu0 (by decide) wf_60 (v := .int ln) k5 fl_X11_79 dX11_word_22 ?_
    refine lv_icmp_ge (tgt := 47) hx hb dX11_word_25 (by decide) (fun c15 => ?_) (fun c15 => ?_)
    · have c16 : ln.toInt ≤ z14.toInt := Int32.le_iff_toInt_le.mp c15
      refine lv_iconst (v := 0) hx hb dX11_word_47 (by decide) ?_
      exact u_zret C h hr hQ ⟨by decide, by decide⟩ (⟨⟨by decide, by decide⟩, tf3, of3, (fun h_ => absurd h_ (by decide)), (fun _ => (by omega)), ⟨aa1_f3, kpu0_3f3, ipu0_3f3, (by have n1_ : (1 : Int32).toInt = 1 := rfl; have n0_ : (0 : Int32).toInt = 0 := rfl; omega)⟩⟩) (Nat.le_of_ble_eq_true rfl) (Nat.le_of_ble_eq_true rfl) dX11_word_48
    · have c17 : z14.toInt < ln.toInt := Int32.lt_iff_toInt_lt.mp (iv_nle c15)
      have i18 : iv z14 0 199 := iv_Ll c17 iz14 hln (by decide)
      have i19 : iv ln 1 200 := iv_Lr c17 iz14 hln (by decide)
      refine lv_aload_n hx hb dX11_word_28 rfl (lv_at hl 2 rfl) ?_
      refine t_getfd C h tf3 hu0 (by decide) wf_60 (v := .ref tq) k6 fl_X11_9 dX11_word_29 ?_
      refine lv_aload_n hx hb dX11_word_32 rfl (lv_at hl 2 rfl) ?_
      refine t_getfd C h tf3 hu0 (by decide) wf_60 (v := .int aa1_f3) kpu0_3f3 fl_X11_90 dX11_word_33 ?_
      refine lv_iload_n hx hb dX11_word_36 rfl (lv_at hl 0 rfl) ?_
      refine i_addk hx hb dX11_word_37 ipu0_3f3 (k := 0) rfl (lo := 0) (hi := 200) (by decide) (fun z20 ez20 mz20 iz20 => ?_)
      refine e_bald C h tf3 htq (by decide) wf_61 k7 (ix_o (by omega)) dX11_word_38 (fun z21 ez21 iz21 => ?_)
      have mz21 := congrArg Int32.toInt ez21
      have hz21 := hB (rn 32 32 B ln.toInt.toNat aa.toInt.toNat) (by omega)
      have sz21 := sg_c hz21.2
      have qz21 : z21.toInt = sg (B (rn 32 32 B ln.toInt.toNat aa.toInt.toNat)) := by rw [mz21, ← hz21.1]; exact congrArg (fun z_ => (rt z_).toInt) (by omega)
      refine lv_aload_n hx hb dX11_word_39 rfl (lv_at hl 3 rfl) ?_
      refine lv_iload_n hx hb dX11_word_40 rfl (lv_at hl 0 rfl) ?_
      have hrv := vk_recv hE0.2.2.2.2.2.2.2.2.2.1 (i := 5) (by decide) h.2.2.1
      refine k_i (r_VK C h hl (As := [.int 0]) (rest := [.int z21]) (c_charAt l D G b0 f3 5 (by decide) 0 (by decide) (by unfold vp_in; decide)) hrv mk_J0_charAt_5068e w_1575 w_473 w_474 w_475 ⟨(Nat.le_of_ble_eq_true rfl), (Nat.le_of_ble_eq_true rfl)⟩ rfl (Nat.le_of_ble_eq_true rfl) ⟨(Nat.le_of_ble_eq_true rfl), (Nat.le_of_ble_eq_true rfl)⟩ rfl dX11_word_41) h (fun r22 f23 H locs p24 h => ?_)
      obtain ⟨er22, rfl⟩ := p24
      obtain rfl : (115 : Int32) = r22 := by rw [er22]; decide
      refine lv_icmp_eq (tgt := 49) hx hb dX11_word_44 (by decide) (fun c25 => ?_) (fun c25 => ?_)
      · have c26 : z21.toInt = 115 := congrArg Int32.toInt c25
        have i27 : iv z21 115 115 := iv_Q c26 iz21 (iv_k (x := 115) (k := 115) rfl) (by decide)
        refine lv_iinc (v := 1) (lv' := [(3, .int 1), (2, .int r2), (0, .ref u0), (1, .ref (G (20 + 5)))]) hx hb dX11_word_49 hl (k := 0) rfl (by decide) (by decide) rfl (fun ls hl => ?_)
        refine lv_goto (tgt := 7) hx hb dX11_word_52 (by decide) ?_
        refine lv_iload_n hx hb dX11_word_7 rfl (lv_at hl 0 rfl) ?_
        refine lv_aload_n hx hb dX11_word_8 rfl (lv_at hl 3 rfl) ?_
        have hrv := vk_recv hE0.2.2.2.2.2.2.2.2.2.1 (i := 5) (by decide) h.2.2.1
        refine k_i (r_VK C h hl (As := []) (rest := [.int 1]) (c_length l D G b0 f3 5 (by decide)) hrv mk_J0_length_8abf5 w_1574 w_1252 w_1253 w_1254 ⟨(Nat.le_of_ble_eq_true rfl), (Nat.le_of_ble_eq_true rfl)⟩ rfl (Nat.le_of_ble_eq_true rfl) ⟨(Nat.le_of_ble_eq_true rfl), (Nat.le_of_ble_eq_true rfl)⟩ rfl dX11_word_9) h (fun r29 f30 H locs p31 h => ?_)
        obtain ⟨er29, rfl⟩ := p31
        obtain rfl : (2 : Int32) = r29 := by rw [er29]; decide
        refine lv_icmp_ge (tgt := 55) hx hb dX11_word_12 (by decide) (fun c32 => ?_) (fun c32 => ?_)
        · exact absurd c32 (by decide)
        · refine lv_aload_n hx hb dX11_word_15 rfl (lv_at hl 2 rfl) ?_
          refine t_getfd C h tf3 hu0 (by decide) wf_60 (v := .int aa1_f3) kpu0_3f3 fl_X11_90 dX11_word_16 ?_
          refine lv_iload_n hx hb dX11_word_19 rfl (lv_at hl 0 rfl) ?_
          refine i_addk hx hb dX11_word_20 ipu0_3f3 (k := 1) rfl (lo := 1) (hi := 201) (by decide) (fun z35 ez35 mz35 iz35 => ?_)
          refine lv_aload_n hx hb dX11_word_21 rfl (lv_at hl 2 rfl) ?_
          refine t_getfd C h tf3 hu0 (by decide) wf_60 (v := .int ln) k5 fl_X11_79 dX11_word_22 ?_
          refine lv_icmp_ge (tgt := 47) hx hb dX11_word_25 (by decide) (fun c36 => ?_) (fun c36 => ?_)
          · have c37 : ln.toInt ≤ z35.toInt := Int32.le_iff_toInt_le.mp c36
            refine lv_iconst (v := 0) hx hb dX11_word_47 (by decide) ?_
            exact u_zret C h hr hQ ⟨by decide, by decide⟩ (⟨⟨by decide, by decide⟩, tf3, of3, (fun h_ => absurd h_ (by decide)), (fun _ => (by omega)), ⟨aa1_f3, kpu0_3f3, ipu0_3f3, (by have n1_ : (1 : Int32).toInt = 1 := rfl; have n0_ : (0 : Int32).toInt = 0 := rfl; omega)⟩⟩) (Nat.le_of_ble_eq_true rfl) (Nat.le_of_ble_eq_true rfl) dX11_word_48
          · have c38 : z35.toInt < ln.toInt := Int32.lt_iff_toInt_lt.mp (iv_nle c36)
            have i39 : iv z35 1 199 := iv_Ll c38 iz35 i19 (by decide)
            have i40 : iv ln 2 200 := iv_Lr c38 iz35 i19 (by decide)
            refine lv_aload_n hx hb dX11_word_28 rfl (lv_at hl 2 rfl) ?_
            refine t_getfd C h tf3 hu0 (by decide) wf_60 (v := .ref tq) k6 fl_X11_9 dX11_word_29 ?_
            refine lv_aload_n hx hb dX11_word_32 rfl (lv_at hl 2 rfl) ?_
            refine t_getfd C h tf3 hu0 (by decide) wf_60 (v := .int aa1_f3) kpu0_3f3 fl_X11_90 dX11_word_33 ?_
            refine lv_iload_n hx hb dX11_word_36 rfl (lv_at hl 0 rfl) ?_
            refine i_addk hx hb dX11_word_37 ipu0_3f3 (k := 1) rfl (lo := 1) (hi := 201) (by decide) (fun z41 ez41 mz41 iz41 => ?_)
            refine e_bald C h tf3 htq (by decide) wf_61 k7 (ix_o (by omega)) dX11_word_38 (fun z42 ez42 iz42 => ?_)
            have mz42 := congrArg Int32.toInt ez42
            have hz42 := hB ((rn 32 32 B ln.toInt.toNat aa.toInt.toNat) + 1) (by omega)
            have sz42 := sg_c hz42.2
            have qz42 : z42.toInt = sg (B ((rn 32 32 B ln.toInt.toNat aa.toInt.toNat) + 1)) := by rw [mz42, ← hz42.1]; exact congrArg (fun z_ => (rt z_).toInt) (by omega)
            refine lv_aload_n hx hb dX11_word_39 rfl (lv_at hl 3 rfl) ?_
            refine lv_iload_n hx hb dX11_word_40 rfl (lv_at hl 0 rfl) ?_
            have hrv := vk_recv hE0.2.2.2.2.2.2.2.2.2.1 (i := 5) (by decide) h.2.2.1
            refine k_i (r_VK C h hl (As := [.int 1]) (rest := [.int z42]) (c_charAt l D G b0 f3 5 (by decide) 1 (by decide) (by unfold vp_in; decide)) hrv mk_J0_charAt_5068e w_1575 w_473 w_474 w_475 ⟨(Nat.le_of_ble_eq_true rfl), (Nat.le_of_ble_eq_true rfl)⟩ rfl (Nat.le_of_ble_eq_true rfl) ⟨(Nat.le_of_ble_eq_true rfl), (Nat.le_of_ble_eq_true rfl)⟩ rfl dX11_word_41) h (fun r43 f44 H locs p45 h => ?_)
            obtain ⟨er43, rfl⟩ := p45
            obtain rfl : (119 : Int32) = r43 := by rw [er43]; decide
            refine lv_icmp_eq (tgt := 49) hx hb dX11_word_44 (by decide) (fun c46 => ?_) (fun c46 => ?_)
            · have c47 : z42.toInt = 119 := congrArg Int32.toInt c46
              have i48 : iv z42 119 119 := iv_Q c47 iz42 (iv_k (x := 119) (k := 119) rfl) (by decide)
              refine lv_iinc (v := 2) (lv' := [(3, .int 2), (2, .int r2), (0, .ref u0), (1, .ref (G (20 + 5)))]) hx hb dX11_word_49 hl (k := 0) rfl (by decide) (by decide) rfl (fun ls hl => ?_)
              refine lv_goto (tgt := 7) hx hb dX11_word_52 (by decide) ?_
              refine lv_iload_n hx hb dX11_word_7 rfl (lv_at hl 0 rfl) ?_
              refine lv_aload_n hx hb dX11_word_8 rfl (lv_at hl 3 rfl) ?_
              have hrv := vk_recv hE0.2.2.2.2.2.2.2.2.2.1 (i := 5) (by decide) h.2.2.1
              refine k_i (r_VK C h hl (As := []) (rest := [.int 2]) (c_length l D G b0 f3 5 (by decide)) hrv mk_J0_length_8abf5 w_1574 w_1252 w_1253 w_1254 ⟨(Nat.le_of_ble_eq_true rfl), (Nat.le_of_ble_eq_true rfl)⟩ rfl (Nat.le_of_ble_eq_true rfl) ⟨(Nat.le_of_ble_eq_true rfl), (Nat.le_of_ble_eq_true rfl)⟩ rfl dX11_word_9) h (fun r50 f51 H locs p52 h => ?_)
              obtain ⟨er50, rfl⟩ := p52
              obtain rfl : (2 : Int32) = r50 := by rw [er50]; decide
              refine lv_icmp_ge (tgt := 55) hx hb dX11_word_12 (by decide) (fun c53 => ?_) (fun c53 => ?_)
              · refine lv_aload_n hx hb dX11_word_55 rfl (lv_at hl 2 rfl) ?_
                refine t_getfd C h tf3 hu0 (by decide) wf_60 (v := .int aa1_f3) kpu0_3f3 fl_X11_90 dX11_word_56 ?_
                refine lv_aload_n hx hb dX11_word_59 rfl (lv_at hl 3 rfl) ?_
                have hrv := vk_recv hE0.2.2.2.2.2.2.2.2.2.1 (i := 5) (by decide) h.2.2.1
                refine k_i (r_VK C h hl (As := []) (rest := [.int aa1_f3]) (c_length l D G b0 f3 5 (by decide)) hrv mk_J0_length_8abf5 w_1574 w_1252 w_1253 w_1254 ⟨(Nat.le_of_ble_eq_true rfl), (Nat.le_of_ble_eq_true rfl)⟩ rfl (Nat.le_of_ble_eq_true rfl) ⟨(Nat.le_of_ble_eq_true rfl), (Nat.le_of_ble_eq_true rfl)⟩ rfl dX11_word_60) h (fun r56 f57 H locs p58 h => ?_)
                obtain ⟨er56, rfl⟩ := p58
                obtain rfl : (2 : Int32) = r56 := by rw [er56]; decide
                refine i_addk hx hb dX11_word_63 ipu0_3f3 (k := 2) rfl (lo := 2) (hi := 202) (by decide) (fun z59 ez59 mz59 iz59 => ?_)
                refine lv_istore_n (lv' := [(3, .int z59), (2, .int r2), (0, .ref u0), (1, .ref (G (20 + 5)))]) hx hb dX11_word_64 rfl hl (by decide) rfl (fun ls hl => ?_)
                refine lv_iload_n hx hb dX11_word_65 rfl (lv_at hl 0 rfl) ?_
                refine lv_aload_n hx hb dX11_word_66 rfl (lv_at hl 2 rfl) ?_
                refine t_getfd C h tf3 hu0 (by decide) wf_60 (v := .int ln) k5 fl_X11_79 dX11_word_67 ?_
                refine lv_icmp_ge (tgt := 97) hx hb dX11_word_70 (by decide) (fun c60 => ?_) (fun c60 => ?_)
                · have c61 : ln.toInt ≤ z59.toInt := Int32.le_iff_toInt_le.mp c60
                  refine lv_aload_n hx hb dX11_word_97 rfl (lv_at hl 2 rfl) ?_
                  refine lv_iload_n hx hb dX11_word_98 rfl (lv_at hl 0 rfl) ?_
                  refine t_put C h tf3 of3 hu0 (by decide) (by decide) (by decide) wf_60 fw_60 (k := 3) rfl flw_X11_90 (Or.inr ⟨_, _, _, rfl, rfl⟩) (v := .int z59) rfl rfl ⟨_, rfl, (show iv z59 0 200 from by omega)⟩ dX11_word_99 (fun f65 H locs h tf65 of65 hq ha_ hn_ hk_ => ?_)
                  have k66 := hk_ 2 _ (by decide) k5
                  have k67 := hk_ 1 _ (by decide) k6
                  have k68 := atp.tg k7 hq htq (by decide)
                  have k70 := ha_
                  refine lv_iconst (v := 1) hx hb dX11_word_102 (by decide) ?_
                  exact u_zret C h hr hQ ⟨by decide, by decide⟩ (⟨⟨by decide, by decide⟩, tf65, of65, (fun _ => (by omega)), (fun h_ => absurd h_ (by decide)), ⟨z59, k70, (show iv z59 0 200 from by omega), (by have n1_ : (1 : Int32).toInt = 1 := rfl; have n0_ : (0 : Int32).toInt = 0 := rfl; omega)⟩⟩) (Nat.le_of_ble_eq_true rfl) (Nat.le_of_ble_eq_true rfl) dX11_word_103
                · have c62 : z59.toInt < ln.toInt := Int32.lt_iff_toInt_lt.mp (iv_nle c60)
                  have i63 : iv z59 2 199 := iv_Ll c62 iz59 i40 (by decide)
                  have i64 : iv ln 3 200 := iv_Lr c62 iz59 i40 (by decide)
                  refine lv_aload_n hx hb dX11_word_73 rfl (lv_at hl 2 rfl) ?_
                  refine t_getfd C h tf3 hu0 (by decide) wf_60 (v := .ref tq) k6 fl_X11_9 dX11_word_74 ?_
                  refine lv_iload_n hx hb dX11_word_77 rfl (lv_at hl 0 rfl) ?_
                  refine e_bald C h tf3 htq (by decide) wf_61 k7 (iv_in i63 (by decide)) dX11_word_78 (fun z71 ez71 iz71 => ?_)
                  have mz71 := congrArg Int32.toInt ez71
                  have hz71 := hB ((rn 32 32 B ln.toInt.toNat aa.toInt.toNat) + 2) (by omega)
                  have sz71 := sg_c hz71.2
                  have qz71 : z71.toInt = sg (B ((rn 32 32 B ln.toInt.toNat aa.toInt.toNat) + 2)) := by rw [mz71, ← hz71.1]; exact congrArg (fun z_ => (rt z_).toInt) (by omega)
                  refine lv_bipush (v := 97) hx hb dX11_word_79 (by decide) ?_
                  refine lv_icmp_lt (tgt := 97) hx hb dX11_word_81 (by decide) (fun c72 => ?_) (fun c72 => ?_)
                  · have c73 : z71.toInt < 97 := Int32.lt_iff_toInt_lt.mp c72
                    have i74 : iv z71 (-128) 96 := iv_Ll c73 iz71 (iv_k (x := 97) (k := 97) rfl) (by decide)
                    refine lv_aload_n hx hb dX11_word_97 rfl (lv_at hl 2 rfl) ?_
                    refine lv_iload_n hx hb dX11_word_98 rfl (lv_at hl 0 rfl) ?_
                    refine t_put C h tf3 of3 hu0 (by decide) (by decide) (by decide) wf_60 fw_60 (k := 3) rfl flw_X11_90 (Or.inr ⟨_, _, _, rfl, rfl⟩) (v := .int z59) rfl rfl ⟨_, rfl, (iv_w i63 (by decide))⟩ dX11_word_99 (fun f77 H locs h tf77 of77 hq ha_ hn_ hk_ => ?_)
                    have k78 := hk_ 2 _ (by decide) k5
                    have k79 := hk_ 1 _ (by decide) k6
                    have k80 := atp.tg k7 hq htq (by decide)
                    have k82 := ha_
                    refine lv_iconst (v := 1) hx hb dX11_word_102 (by decide) ?_
                    exact u_zret C h hr hQ ⟨by decide, by decide⟩ (⟨⟨by decide, by decide⟩, tf77, of77, (fun _ => (by omega)), (fun h_ => absurd h_ (by decide)), ⟨z59, k82, (iv_w i63 (by decide)), (by have n1_ : (1 : Int32).toInt = 1 := rfl; have n0_ : (0 : Int32).toInt = 0 := rfl; omega)⟩⟩) (Nat.le_of_ble_eq_true rfl) (Nat.le_of_ble_eq_true rfl) dX11_word_103
                  · have c75 : 97 ≤ z71.toInt := Int32.le_iff_toInt_le.mp (iv_nlt c72)
                    have i76 : iv z71 97 127 := iv_Er c75 (iv_k (x := 97) (k := 97) rfl) iz71 (by decide)
                    refine lv_aload_n hx hb dX11_word_84 rfl (lv_at hl 2 rfl) ?_
                    refine t_getfd C h tf3 hu0 (by decide) wf_60 (v := .ref tq) k6 fl_X11_9 dX11_word_85 ?_
                    refine lv_iload_n hx hb dX11_word_88 rfl (lv_at hl 0 rfl) ?_
                    refine e_bald C h tf3 htq (by decide) wf_61 k7 (iv_in i63 (by decide)) dX11_word_89 (fun z83 ez83 iz83 => ?_)
                    have mz83 := congrArg Int32.toInt ez83
                    have hz83 := hB ((rn 32 32 B ln.toInt.toNat aa.toInt.toNat) + 2) (by omega)
                    have sz83 := sg_c hz83.2
                    have qz83 : z83.toInt = sg (B ((rn 32 32 B ln.toInt.toNat aa.toInt.toNat) + 2)) := by rw [mz83, ← hz83.1]; exact congrArg (fun z_ => (rt z_).toInt) (by omega)
                    refine lv_bipush (v := 122) hx hb dX11_word_90 (by decide) ?_
                    refine lv_icmp_gt (tgt := 97) hx hb dX11_word_92 (by decide) (fun c84 => ?_) (fun c84 => ?_)
                    · have c85 : 122 < z83.toInt := Int32.lt_iff_toInt_lt.mp c84
                      have i86 : iv z83 123 127 := iv_Lr c85 (iv_k (x := 122) (k := 122) rfl) iz83 (by decide)
                      refine lv_aload_n hx hb dX11_word_97 rfl (lv_at hl 2 rfl) ?_
                      refine lv_iload_n hx hb dX11_word_98 rfl (lv_at hl 0 rfl) ?_
                      refine t_put C h tf3 of3 hu0 (by decide) (by decide) (by decide) wf_60 fw_60 (k := 3) rfl flw_X11_90 (Or.inr ⟨_, _, _, rfl, rfl⟩) (v := .int z59) rfl rfl ⟨_, rfl, (iv_w i63 (by decide))⟩ dX11_word_99 (fun f89 H locs h tf89 of89 hq ha_ hn_ hk_ => ?_)
                      have k90 := hk_ 2 _ (by decide) k5
                      have k91 := hk_ 1 _ (by decide) k6
                      have k92 := atp.tg k7 hq htq (by decide)
                      have k94 := ha_
                      refine lv_iconst (v := 1) hx hb dX11_word_102 (by decide) ?_
                      exact u_zret C h hr hQ ⟨by decide, by decide⟩ (⟨⟨by decide, by decide⟩, tf89, of89, (fun _ => (by omega)), (fun h_ => absurd h_ (by decide)), ⟨z59, k94, (iv_w i63 (by decide)), (by have n1_ : (1 : Int32).toInt = 1 := rfl; have n0_ : (0 : Int32).toInt = 0 := rfl; omega)⟩⟩) (Nat.le_of_ble_eq_true rfl) (Nat.le_of_ble_eq_true rfl) dX11_word_103
                    · have c87 : z83.toInt ≤ 122 := Int32.le_iff_toInt_le.mp (iv_nlt c84)
                      have i88 : iv z83 (-128) 122 := iv_El c87 iz83 (iv_k (x := 122) (k := 122) rfl) (by decide)
                      refine lv_iconst (v := 0) hx hb dX11_word_95 (by decide) ?_
                      exact u_zret C h hr hQ ⟨by decide, by decide⟩ (⟨⟨by decide, by decide⟩, tf3, of3, (fun h_ => absurd h_ (by decide)), (fun _ => (by omega)), ⟨aa1_f3, kpu0_3f3, ipu0_3f3, (by have n1_ : (1 : Int32).toInt = 1 := rfl; have n0_ : (0 : Int32).toInt = 0 := rfl; omega)⟩⟩) (Nat.le_of_ble_eq_true rfl) (Nat.le_of_ble_eq_true rfl) dX11_word_96
              · exact absurd c53 (by decide)
            · have c49 : z42.toInt ≠ 119 := fun z_ => c46 (Int32.toInt_inj.mp z_)
              refine lv_iconst (v := 0) hx hb dX11_word_47 (by decide) ?_
              exact u_zret C h hr hQ ⟨by decide, by decide⟩ (⟨⟨by decide, by decide⟩, tf3, of3, (fun h_ => absurd h_ (by decide)), (fun _ => (by omega)), ⟨aa1_f3, kpu0_3f3, ipu0_3f3, (by have n1_ : (1 : Int32).toInt = 1 := rfl; have n0_ : (0 : Int32).toInt = 0 := rfl; omega)⟩⟩) (Nat.le_of_ble_eq_true rfl) (Nat.le_of_ble_eq_true rfl) dX11_word_48
      · have c28 : z21.toInt ≠ 115 := fun z_ => c25 (Int32.toInt_inj.mp z_)
        refine lv_iconst (v := 0) hx hb dX11_word_47 (by decide) ?_
        exact u_zret C h hr hQ ⟨by decide, by decide⟩ (⟨⟨by decide, by decide⟩, tf3, of3, (fun h_ => absurd h_ (by decide)), (fun _ => (by omega)), ⟨aa1_f3, kpu0_3f3, ipu0_3f3, (by have n1_ : (1 : Int32).toInt = 1 := rfl; have n0_ : (0 : Int32).toInt = 0 := rfl; omega)⟩⟩) (Nat.le_of_ble_eq_true rfl) (Nat.le_of_ble_eq_true rfl) dX11_word_48
abbrev rm_s_X11_wordX6 : Room := { frames := 4, cells := 0, slots := 0, locals := 85 }
set_option maxRecDepth 100000 in
set_option maxHeartbeats 4000000 in
theorem s_X11_wordX6 (l : Launch) (D : va_G) (G : Nat → Nat) (b0 : Nat) (τ : Nat → Nat) (f : hM) (t : TI G 9 τ f) (u0 : Nat) (hu0 : τ u0 = 60) (ln : Int32) (hln : iv ln 0 200) (k_u0_2 : atp f u0 (fd 2 (.int ln))) (aa : Int32) (haa : iv aa 0 200) (k_u0_3 : atp f u0 (fd 3 (.int aa))) (tq : Nat) (htq : τ tq = 61) (k_u0_1 : atp f u0 (fd 1 (.ref tq))) (rt : Nat → Int32) (hRtq : atp f tq (eqc (.inl (G 0, 200, .inl rt)))) (B : Nat → Int) (hB : ∀ k : Nat, (k : Int) < ln.toInt → (rt k).toInt = sg (B k) ∧ 0 ≤ B k ∧ B k ≤ 255)  : mI l yX11_word cX11_word 4 (.boolean) rm_s_X11_wordX6 D G b0 f [.ref u0, .ref (G (20 + 6))] (fun r f1 => iv r 0 1 ∧ TI G 9 τ f1 ∧ Fr [60, 60004] τ f f1 ∧ (r.toInt ≠ 0 → (((((rn 32 32 B ln.toInt.toNat aa.toInt.toNat) + 1 : Nat) : Int) ≤ ln.toInt) ∧ B (rn 32 32 B ln.toInt.toNat aa.toInt.toNat) = 119 ∧ ¬ (((((rn 32 32 B ln.toInt.toNat aa.toInt.toNat) + 1 : Nat) : Int) < ln.toInt) ∧ 97 ≤ B ((rn 32 32 B ln.toInt.toNat aa.toInt.toNat) + 1) ∧ B ((rn 32 32 B ln.toInt.toNat aa.toInt.toNat) + 1) ≤ 122))) ∧ (r.toInt = 0 → ¬ (((((rn 32 32 B ln.toInt.toNat aa.toInt.toNat) + 1 : Nat) : Int) ≤ ln.toInt) ∧ B (rn 32 32 B ln.toInt.toNat aa.toInt.toNat) = 119 ∧ ¬ (((((rn 32 32 B ln.toInt.toNat aa.toInt.toNat) + 1 : Nat) : Int) < ln.toInt) ∧ 97 ≤ B ((rn 32 32 B ln.toInt.toNat aa.toInt.toNat) + 1) ∧ B ((rn 32 32 B ln.toInt.toNat aa.toInt.toNat) + 1) ≤ 122))) ∧ (∃ aa1 : Int32, atp f1 u0 (fd 3 (.int aa1)) ∧ iv aa1 0 200 ∧ (r.toInt ≠ 0 → aa1.toInt = (((rn 32 32 B ln.toInt.toNat aa.toInt.toNat) : Nat) : Int) + 1) ∧ (r.toInt = 0 → aa1.toInt = (((rn 32 32 B ln.toInt.toNat aa.toInt.toNat) : Nat) : Int)))) := by
  refine met2 (own := RX11) (by decide) rfl (Nat.le_of_ble_eq_true rfl) ?_
  intro p e s m args below meth c ls Q hQ C hr hini hl h
  have hl : lv_has ls 4 [(0, .ref u0), (1, .ref (G (20 + 6)))] := hl
  obtain ⟨hx, hb, hml, hown, hts, hE0, hlk⟩ := id C
  have o := Fr.rf [60, 60004] τ f
  refine lv_aload_n hx hb dX11_word_0 rfl (lv_at hl 0 rfl) ?_
  obtain ⟨_, r1⟩ := t_rec t hu0 (by decide) wf_60
  refine k_i (r_V C h hl (As := []) (rest := []) (s_X11_lookX l D G b0 τ f t u0 hu0 ln hln k_u0_2 aa haa k_u0_3 tq htq k_u0_1 rt hRtq B hB) r1 (Cn := RX11) (T := TX11) (N := 32) rfl rfl mk_X11_look w_1557 w_1559 w_40 w_1560 ⟨Nat.le_of_ble_eq_true rfl, Nat.le_of_ble_eq_true rfl⟩ rfl (Nat.le_of_ble_eq_true rfl) ⟨Nat.le_of_ble_eq_true rfl, Nat.le_of_ble_eq_true rfl⟩ rfl dX11_word_1) h (fun r2 f3 H locs p4 h => ?_)
  obtain ⟨ir2, tf3, ogf3, x0r2, ⟨aa1_f3, kpu0_3f3, ipu0_3f3, rpu0_3f3⟩⟩ := p4
  have of3 : Fr [60, 60004] τ f f3 := Fr.tr o ogf3 (by decide) (by decide)
  have k5 := atp.fk k_u0_2 ogf3 hu0 (by decide) (by decide)
  have k6 := atp.fk k_u0_1 ogf3 hu0 (by decide) (by decide)
  have k7 := atp.fr hRtq ogf3 htq (by decide)
  refine lv_istore_n (lv' := [(2, .int r2), (0, .ref u0), (1, .ref (G (20 + 6)))]) hx hb dX11_word_4 rfl hl (by decide) rfl (fun ls hl => ?_)
  refine lv_iconst (v := 0) hx hb dX11_word_5 (by decide) ?_
  refine lv_istore_n (lv' := [(3, .int 0), (2, .int r2), (0, .ref u0), (1, .ref (G (20 + 6)))]) hx hb dX11_word_6 rfl hl (by decide) rfl (fun ls hl => ?_)
  refine lv_iload_n hx hb dX11_word_7 rfl (lv_at hl 0 rfl) ?_
  refine lv_aload_n hx hb dX11_word_8 rfl (lv_at hl 3 rfl) ?_
  have hrv := vk_recv hE0.2.2.2.2.2.2.2.2.2.1 (i := 6) (by decide) h.2.2.1
  refine k_i (r_VK C h hl (As := []) (rest := [.int 0]) (c_length l D G b0 f3 6 (by decide)) hrv mk_J0_length_8abf5 w_1574 w_1252 w_1253 w_1254 ⟨(Nat.le_of_ble_eq_true rfl), (Nat.le_of_ble_eq_true rfl)⟩ rfl (Nat.le_of_ble_eq_true rfl) ⟨(Nat.le_of_ble_eq_true rfl), (Nat.le_of_ble_eq_true rfl)⟩ rfl dX11_word_9) h (fun r8 f9 H locs p10 h => ?_)
  obtain ⟨er8, rfl⟩ := p10
  obtain rfl : (1 : Int32) = r8 := by rw [er8]; decide
  refine lv_icmp_ge (tgt := 55) hx hb dX11_word_12 (by decide) (fun c11 => ?_) (fun c11 => ?_)
  · exact absurd c11 (by decide)
  · refine lv_aload_n hx hb dX11_word_15 rfl (lv_at hl 2 rfl) ?_
    refine t_getfd C h tf3 hu0 (by decide) wf_60 (v := .int aa1_f3) kpu0_3f3 fl_X11_90 dX11_word_16 ?_
    refine lv_iload_n hx hb dX11_word_19 rfl (lv_at hl 0 rfl) ?_
    refine i_addk hx hb dX11_word_20 ipu0_3f3 (k := 0) rfl (lo := 0) (hi := 200) (by decide) (fun z14 ez14 mz14 iz14 => ?_)
    refine lv_aload_n hx hb dX11_word_21 rfl (lv_at hl 2 rfl) ?_
    refine t_getfd C h tf3 hu0 (by decide) wf_60 (v := .int ln) k5 fl_X11_79 dX11_word_22 ?_
    refine lv_icmp_ge (tgt := 47) hx hb dX11_word_25 (by decide) (fun c15 => ?_) (fun c15 => ?_)
    · have c16 : ln.toInt ≤ z14.toInt := Int32.le_iff_toInt_le.mp c15
      refine lv_iconst (v := 0) hx hb dX11_word_47 (by decide) ?_
      exact u_zret C h hr hQ ⟨by decide, by decide⟩ (⟨⟨by decide, by decide⟩, tf3, of3, (fun h_ => absurd h_ (by decide)), (fun _ => (by omega)), ⟨aa1_f3, kpu0_3f3, ipu0_3f3, (by have n1_ : (1 : Int32).toInt = 1 := rfl; have n0_ : (0 : Int32).toInt = 0 := rfl; omega)⟩⟩) (Nat.le_of_ble_eq_true rfl) (Nat.le_of_ble_eq_true rfl) dX11_word_48
    · have c17 : z14.toInt < ln.toInt := Int32.lt_iff_toInt_lt.mp (iv_nle c15)
      have i18 : iv z14 0 199 := iv_Ll c17 iz14 hln (by decide)
      have i19 : iv ln 1 200 := iv_Lr c17 iz14 hln (by decide)
      refine lv_aload_n hx hb dX11_word_28 rfl (lv_at hl 2 rfl) ?_
      refine t_getfd C h tf3 hu0 (by decide) wf_60 (v := .ref tq) k6 fl_X11_9 dX11_word_29 ?_
      refine lv_aload_n hx hb dX11_word_32 rfl (lv_at hl 2 rfl) ?_
      refine t_getfd C h tf3 hu0 (by decide) wf_60 (v := .int aa1_f3) kpu0_3f3 fl_X11_90 dX11_word_33 ?_
      refine lv_iload_n hx hb dX11_word_36 rfl (lv_at hl 0 rfl) ?_
      refine i_addk hx hb dX11_word_37 ipu0_3f3 (k := 0) rfl (lo := 0) (hi := 200) (by decide) (fun z20 ez20 mz20 iz20 => ?_)
      refine e_bald C h tf3 htq (by decide) wf_61 k7 (ix_o (by omega)) dX11_word_38 (fun z21 ez21 iz21 => ?_)
      have mz21 := congrArg Int32.toInt ez21
      have hz21 := hB (rn 32 32 B ln.toInt.toNat aa.toInt.toNat) (by omega)
      have sz21 := sg_c hz21.2
      have qz21 : z21.toInt = sg (B (rn 32 32 B ln.toInt.toNat aa.toInt.toNat)) := by rw [mz21, ← hz21.1]; exact congrArg (fun z_ => (rt z_).toInt) (by omega)
      refine lv_aload_n hx hb dX11_word_39 rfl (lv_at hl 3 rfl) ?_
      refine lv_iload_n hx hb dX11_word_40 rfl (lv_at hl 0 rfl) ?_
      have hrv := vk_recv hE0.2.2.2.2.2.2.2.2.2.1 (i := 6) (by decide) h.2.2.1
      refine k_i (r_VK C h hl (As := [.int 0]) (rest := [.int z21]) (c_charAt l D G b0 f3 6 (by decide) 0 (by decide) (by unfold vp_in; decide)) hrv mk_J0_charAt_5068e w_1575 w_473 w_474 w_475 ⟨(Nat.le_of_ble_eq_true rfl), (Nat.le_of_ble_eq_true rfl)⟩ rfl (Nat.le_of_ble_eq_true rfl) ⟨(Nat.le_of_ble_eq_true rfl), (Nat.le_of_ble_eq_true rfl)⟩ rfl dX11_word_41) h (fun r22 f23 H locs p24 h => ?_)
      obtain ⟨er22, rfl⟩ := p24
      obtain rfl : (119 : Int32) = r22 := by rw [er22]; decide
      refine lv_icmp_eq (tgt := 49) hx hb dX11_word_44 (by decide) (fun c25 => ?_) (fun c25 => ?_)
      · have c26 : z21.toInt = 119 := congrArg Int32.toInt c25
        have i27 : iv z21 119 119 := iv_Q c26 iz21 (iv_k (x := 119) (k := 119) rfl) (by decide)
        refine lv_iinc (v := 1) (lv' := [(3, .int 1), (2, .int r2), (0, .ref u0), (1, .ref (G (20 + 6)))]) hx hb dX11_word_49 hl (k := 0) rfl (by decide) (by decide) rfl (fun ls hl => ?_)
        refine lv_goto (tgt := 7) hx hb dX11_word_52 (by decide) ?_
        refine lv_iload_n hx hb dX11_word_7 rfl (lv_at hl 0 rfl) ?_
        refine lv_aload_n hx hb dX11_word_8 rfl (lv_at hl 3 rfl) ?_
        have hrv := vk_recv hE0.2.2.2.2.2.2.2.2.2.1 (i := 6) (by decide) h.2.2.1
        refine k_i (r_VK C h hl (As := []) (rest := [.int 1]) (c_length l D G b0 f3 6 (by decide)) hrv mk_J0_length_8abf5 w_1574 w_1252 w_1253 w_1254 ⟨(Nat.le_of_ble_eq_true rfl), (Nat.le_of_ble_eq_true rfl)⟩ rfl (Nat.le_of_ble_eq_true rfl) ⟨(Nat.le_of_ble_eq_true rfl), (Nat.le_of_ble_eq_true rfl)⟩ rfl dX11_word_9) h (fun r29 f30 H locs p31 h => ?_)
        obtain ⟨er29, rfl⟩ := p31
        obtain rfl : (1 : Int32) = r29 := by rw [er29]; decide
        refine lv_icmp_ge (tgt := 55) hx hb dX11_word_12 (by decide) (fun c32 => ?_) (fun c32 => ?_)
        · refine lv_aload_n hx hb dX11_word_55 rfl (lv_at hl 2 rfl) ?_
          refine t_getfd C h tf3 hu0 (by decide) wf_60 (v := .int aa1_f3) kpu0_3f3 fl_X11_90 dX11_word_56 ?_
          refine lv_aload_n hx hb dX11_word_59 rfl (lv_at hl 3 rfl) ?_
          have hrv := vk_recv hE0.2.2.2.2.2.2.2.2.2.1 (i := 6) (by decide) h.2.2.1
          refine k_i (r_VK C h hl (As := []) (rest := [.int aa1_f3]) (c_length l D G b0 f3 6 (by decide)) hrv mk_J0_length_8abf5 w_1574 w_1252 w_1253 w_1254 ⟨(Nat.le_of_ble_eq_true rfl), (Nat.le_of_ble_eq_true rfl)⟩ rfl (Nat.le_of_ble_eq_true rfl) ⟨(Nat.le_of_ble_eq_true rfl), (Nat.le_of_ble_eq_true rfl)⟩ rfl dX11_word_60) h (fun r35 f36 H locs p37 h => ?_)
          obtain ⟨er35, rfl⟩ := p37
          obtain rfl : (1 : Int32) = r35 := by rw [er35]; decide
          refine i_addk hx hb dX11_word_63 ipu0_3f3 (k := 1) rfl (lo := 1) (hi := 201) (by decide) (fun z38 ez38 mz38 iz38 => ?_)
          refine lv_istore_n (lv' := [(3, .int z38), (2, .int r2), (0, .ref u0), (1, .ref (G (20 + 6)))]) hx hb dX11_word_64 rfl hl (by decide) rfl (fun ls hl => ?_)
          refine lv_iload_n hx hb dX11_word_65 rfl (lv_at hl 0 rfl) ?_
          refine lv_aload_n hx hb dX11_word_66 rfl (lv_at hl 2 rfl) ?_
          refine t_getfd C h tf3 hu0 (by decide) wf_60 (v := .int ln) k5 fl_X11_79 dX11_word_67 ?_
          refine lv_icmp_ge (tgt := 97) hx hb dX11_word_70 (by decide) (fun c39 => ?_) (fun c39 => ?_)
          · have c40 : ln.toInt ≤ z38.toInt := Int32.le_iff_toInt_le.mp c39
            refine lv_aload_n hx hb dX11_word_97 rfl (lv_at hl 2 rfl) ?_
            refine lv_iload_n hx hb dX11_word_98 rfl (lv_at hl 0 rfl) ?_
            refine t_put C h tf3 of3 hu0 (by decide) (by decide) (by decide) wf_60 fw_60 (k := 3) rfl flw_X11_90 (Or.inr ⟨_, _, _, rfl, rfl⟩) (v := .int z38) rfl rfl ⟨_, rfl, (show iv z38 0 200 from by omega)⟩ dX11_word_99 (fun f44 H locs h tf44 of44 hq ha_ hn_ hk_ => ?_)
            have k45 := hk_ 2 _ (by decide) k5
            have k46 := hk_ 1 _ (by decide) k6
            have k47 := atp.tg k7 hq htq (by decide)
            have k49 := ha_
            refine lv_iconst (v := 1) hx hb dX11_word_102 (by decide) ?_
            exact u_zret C h hr hQ ⟨by decide, by decide⟩ (⟨⟨by decide, by decide⟩, tf44, of44, (fun _ => (by omega)), (fun h_ => absurd h_ (by decide)), ⟨z38, k49, (show iv z38 0 200 from by omega), (by have n1_ : (1 : Int32).toInt = 1 := rfl; have n0_ : (0 : Int32).toInt = 0 := rfl; omega)⟩⟩) (Nat.le_of_ble_eq_true rfl) (Nat.le_of_ble_eq_true rfl) dX11_word_103
          · have c41 : z38.toInt < ln.toInt := Int32.lt_iff_toInt_lt.mp (iv_nle c39)
            have i42 : iv z38 1 199 := iv_Ll c41 iz38 i19 (by decide)
            have i43 : iv ln 2 200 := iv_Lr c41 iz38 i19 (by decide)
            refine lv_aload_n hx hb dX11_word_73 rfl (lv_at hl 2 rfl) ?_
            refine t_getfd C h tf3 hu0 (by decide) wf_60 (v := .ref tq) k6 fl_X11_9 dX11_word_74 ?_
            refine lv_iload_n hx hb dX11_word_77 rfl (lv_at hl 0 rfl) ?_
            refine e_bald C h tf3 htq (by decide) wf_61 k7 (iv_in i42 (by decide)) dX11_word_78 (fun z50 ez50 iz50 => ?_)
            have mz50 := congrArg Int32.toInt ez50
            have hz50 := hB ((rn 32 32 B ln.toInt.toNat aa.toInt.toNat) + 1) (by omega)
            have sz50 := sg_c hz50.2
            have qz50 : z50.toInt = sg (B ((rn 32 32 B ln.toInt.toNat aa.toInt.toNat) + 1)) := by rw [mz50, ← hz50.1]; exact congrArg (fun z_ => (rt z_).toInt) (by omega)
            refine lv_bipush (v := 97) hx hb dX11_word_79 (by decide) ?_
            refine lv_icmp_lt (tgt := 97) hx hb dX11_word_81 (by decide) (fun c51 => ?_) (fun c51 => ?_)
            · have c52 : z50.toInt < 97 := Int32.lt_iff_toInt_lt.mp c51
              have i53 : iv z50 (-128) 96 := iv_Ll c52 iz50 (iv_k (x := 97) (k := 97) rfl) (by decide)
              refine lv_aload_n hx hb dX11_word_97 rfl (lv_at hl 2 rfl) ?_
              refine lv_iload_n hx hb dX11_word_98 rfl (lv_at hl 0 rfl) ?_
              refine t_put C h tf3 of3 hu0 (by decide) (by decide) (by decide) wf_60 fw_60 (k := 3) rfl flw_X11_90 (Or.inr ⟨_, _, _, rfl, rfl⟩) (v := .int z38) rfl rfl ⟨_, rfl, (iv_w i42 (by decide))⟩ dX11_word_99 (fun f56 H locs h tf56 of56 hq ha_ hn_ hk_ => ?_)
              have k57 := hk_ 2 _ (by decide) k5
              have k58 := hk_ 1 _ (by decide) k6
              have k59 := atp.tg k7 hq htq (by decide)
              have k61 := ha_
              refine lv_iconst (v := 1) hx hb dX11_word_102 (by decide) ?_
              exact u_zret C h hr hQ ⟨by decide, by decide⟩ (⟨⟨by decide, by decide⟩, tf56, of56, (fun _ => (by omega)), (fun h_ => absurd h_ (by decide)), ⟨z38, k61, (iv_w i42 (by decide)), (by have n1_ : (1 : Int32).toInt = 1 := rfl; have n0_ : (0 : Int32).toInt = 0 := rfl; omega)⟩⟩) (Nat.le_of_ble_eq_true rfl) (Nat.le_of_ble_eq_true rfl) dX11_word_103
            · have c54 : 97 ≤ z50.toInt := Int32.le_iff_toInt_le.mp (iv_nlt c51)
              have i55 : iv z50 97 127 := iv_Er c54 (iv_k (x := 97) (k := 97) rfl) iz50 (by decide)
              refine lv_aload_n hx hb dX11_word_84 rfl (lv_at hl 2 rfl) ?_
              refine t_getfd C h tf3 hu0 (by decide) wf_60 (v := .ref tq) k6 fl_X11_9 dX11_word_85 ?_
              refine lv_iload_n hx hb dX11_word_88 rfl (lv_at hl 0 rfl) ?_
              refine e_bald C h tf3 htq (by decide) wf_61 k7 (iv_in i42 (by decide)) dX11_word_89 (fun z62 ez62 iz62 => ?_)
              have mz62 := congrArg Int32.toInt ez62
              have hz62 := hB ((rn 32 32 B ln.toInt.toNat aa.toInt.toNat) + 1) (by omega)
              have sz62 := sg_c hz62.2
              have qz62 : z62.toInt = sg (B ((rn 32 32 B ln.toInt.toNat aa.toInt.toNat) + 1)) := by rw [mz62, ← hz62.1]; exact congrArg (fun z_ => (rt z_).toInt) (by omega)
              refine lv_bipush (v := 122) hx hb dX11_word_90 (by decide) ?_
              refine lv_icmp_gt (tgt := 97) hx hb dX11_word_92 (by decide) (fun c63 => ?_) (fun c63 => ?_)
              · have c64 : 122 < z62.toInt := Int32.lt_iff_toInt_lt.mp c63
                have i65 : iv z62 123 127 := iv_Lr c64 (iv_k (x := 122) (k := 122) rfl) iz62 (by decide)
                refine lv_aload_n hx hb dX11_word_97 rfl (lv_at hl 2 rfl) ?_
                refine lv_iload_n hx hb dX11_word_98 rfl (lv_at hl 0 rfl) ?_
                refine t_put C h tf3 of3 hu0 (by decide) (by decide) (by decide) wf_60 fw_60 (k := 3) rfl flw_X11_90 (Or.inr ⟨_, _, _, rfl, rfl⟩) (v := .int z38) rfl rfl ⟨_, rfl, (iv_w i42 (by decide))⟩ dX11_word_99 (fun f68 H locs h tf68 of68 hq ha_ hn_ hk_ => ?_)
                have k69 := hk_ 2 _ (by decide) k5
                have k70 := hk_ 1 _ (by decide) k6
                have k71 := atp.tg k7 hq htq (by decide)
                have k73 := ha_
                refine lv_iconst (v := 1) hx hb dX11_word_102 (by decide) ?_
                exact u_zret C h hr hQ ⟨by decide, by decide⟩ (⟨⟨by decide, by decide⟩, tf68, of68, (fun _ => (by omega)), (fun h_ => absurd h_ (by decide)), ⟨z38, k73, (iv_w i42 (by decide)), (by have n1_ : (1 : Int32).toInt = 1 := rfl; have n0_ : (0 : Int32).toInt = 0 := rfl; omega)⟩⟩) (Nat.le_of_ble_eq_true rfl) (Nat.le_of_ble_eq_true rfl) dX11_word_103
              · have c66 : z62.toInt ≤ 122 := Int32.le_iff_toInt_le.mp (iv_nlt c63)
                have i67 : iv z62 (-128) 122 := iv_El c66 iz62 (iv_k (x := 122) (k := 122) rfl) (by decide)
                refine lv_iconst (v := 0) hx hb dX11_word_95 (by decide) ?_
                exact u_zret C h hr hQ ⟨by decide, by decide⟩ (⟨⟨by decide, by decide⟩, tf3, of3, (fun h_ => absurd h_ (by decide)), (fun _ => (by omega)), ⟨aa1_f3, kpu0_3f3, ipu0_3f3, (by have n1_ : (1 : Int32).toInt = 1 := rfl; have n0_ : (0 : Int32).toInt = 0 := rfl; omega)⟩⟩) (Nat.le_of_ble_eq_true rfl) (Nat.le_of_ble_eq_true rfl) dX11_word_96
        · exact absurd c32 (by decide)
      · have c28 : z21.toInt ≠ 119 := fun z_ => c25 (Int32.toInt_inj.mp z_)
        refine lv_iconst (v := 0) hx hb dX11_word_47 (by decide) ?_
        exact u_zret C h hr hQ ⟨by decide, by decide⟩ (⟨⟨by decide, by decide⟩, tf3, of3, (fun h_ => absurd h_ (by decide)), (fun _ => (by omega)), ⟨aa1_f3, kpu0_3f3, ipu0_3f3, (by have n1_ : (1 : Int32).toInt = 1 := rfl; have n0_ : (0 : Int32).toInt = 0 := rfl; omega)⟩⟩) (Nat.le_of_ble_eq_true rfl) (Nat.le_of_ble_eq_true rfl) dX11_word_48
abbrev rm_s_X11_wordX7 : Room := { frames := 4, cells := 0, slots := 0, locals := 85 }
set_option maxRecDepth 100000 in
set_option maxHeartbeats 4000000 in
theorem s_X11_wordX7 (l : Launch) (D : va_G) (G : Nat → Nat) (b0 : Nat) (τ : Nat → Nat) (f : hM) (t : TI G 9 τ f) (u0 : Nat) (hu0 : τ u0 = 60) (ln : Int32) (hln : iv ln 0 200) (k_u0_2 : atp f u0 (fd 2 (.int ln))) (aa : Int32) (haa : iv aa 0 200) (k_u0_3 : atp f u0 (fd 3 (.int aa))) (tq : Nat) (htq : τ tq = 61) (k_u0_1 : atp f u0 (fd 1 (.ref tq))) (rt : Nat → Int32) (hRtq : atp f tq (eqc (.inl (G 0, 200, .inl rt)))) (B : Nat → Int) (hB : ∀ k : Nat, (k : Int) < ln.toInt → (rt k).toInt = sg (B k) ∧ 0 ≤ B k ∧ B k ≤ 255)  : mI l yX11_word cX11_word 4 (.boolean) rm_s_X11_wordX7 D G b0 f [.ref u0, .ref (G (20 + 7))] (fun r f1 => iv r 0 1 ∧ TI G 9 τ f1 ∧ Fr [60, 60004] τ f f1 ∧ (r.toInt ≠ 0 → (((((rn 32 32 B ln.toInt.toNat aa.toInt.toNat) + 2 : Nat) : Int) ≤ ln.toInt) ∧ B (rn 32 32 B ln.toInt.toNat aa.toInt.toNat) = 110 ∧ B ((rn 32 32 B ln.toInt.toNat aa.toInt.toNat) + 1) = 119 ∧ ¬ (((((rn 32 32 B ln.toInt.toNat aa.toInt.toNat) + 2 : Nat) : Int) < ln.toInt) ∧ 97 ≤ B ((rn 32 32 B ln.toInt.toNat aa.toInt.toNat) + 2) ∧ B ((rn 32 32 B ln.toInt.toNat aa.toInt.toNat) + 2) ≤ 122))) ∧ (r.toInt = 0 → ¬ (((((rn 32 32 B ln.toInt.toNat aa.toInt.toNat) + 2 : Nat) : Int) ≤ ln.toInt) ∧ B (rn 32 32 B ln.toInt.toNat aa.toInt.toNat) = 110 ∧ B ((rn 32 32 B ln.toInt.toNat aa.toInt.toNat) + 1) = 119 ∧ ¬ (((((rn 32 32 B ln.toInt.toNat aa.toInt.toNat) + 2 : Nat) : Int) < ln.toInt) ∧ 97 ≤ B ((rn 32 32 B ln.toInt.toNat aa.toInt.toNat) + 2) ∧ B ((rn 32 32 B ln.toInt.toNat aa.toInt.toNat) + 2) ≤ 122))) ∧ (∃ aa1 : Int32, atp f1 u0 (fd 3 (.int aa1)) ∧ iv aa1 0 200 ∧ (r.toInt ≠ 0 → aa1.toInt = (((rn 32 32 B ln.toInt.toNat aa.toInt.toNat) : Nat) : Int) + 2) ∧ (r.toInt = 0 → aa1.toInt = (((rn 32 32 B ln.toInt.toNat aa.toInt.toNat) : Nat) : Int)))) := by
  refine met2 (own := RX11) (by decide) rfl (Nat.le_of_ble_eq_true rfl) ?_
  intro p e s m args below meth c ls Q hQ C hr hini hl h
  have hl : lv_has ls 4 [(0, .ref u0), (1, .ref (G (20 + 7)))] := hl
  obtain ⟨hx, hb, hml, hown, hts, hE0, hlk⟩ := id C
  have o := Fr.rf [60, 60004] τ f
  refine lv_aload_n hx hb dX11_word_0 rfl (lv_at hl 0 rfl) ?_
  obtain ⟨_, r1⟩ := t_rec t hu0 (by decide) wf_60
  refine k_i (r_V C h hl (As := []) (rest := []) (s_X11_lookX l D G b0 τ f t u0 hu0 ln hln k_u0_2 aa haa k_u0_3 tq htq k_u0_1 rt hRtq B hB) r1 (Cn := RX11) (T := TX11) (N := 32) rfl rfl mk_X11_look w_1557 w_1559 w_40 w_1560 ⟨Nat.le_of_ble_eq_true rfl, Nat.le_of_ble_eq_true rfl⟩ rfl (Nat.le_of_ble_eq_true rfl) ⟨Nat.le_of_ble_eq_true rfl, Nat.le_of_ble_eq_true rfl⟩ rfl dX11_word_1) h (fun r2 f3 H locs p4 h => ?_)
  obtain ⟨ir2, tf3, ogf3, x0r2, ⟨aa1_f3, kpu0_3f3, ipu0_3f3, rpu0_3f3⟩⟩ := p4
  have of3 : Fr [60, 60004] τ f f3 := Fr.tr o ogf3 (by decide) (by decide)
  have k5 := atp.fk k_u0_2 ogf3 hu0 (by decide) (by decide)
  have k6 := atp.fk k_u0_1 ogf3 hu0 (by decide) (by decide)
  have k7 := atp.fr hRtq ogf3 htq (by decide)
  refine lv_istore_n (lv' := [(2, .int r2), (0, .ref u0), (1, .ref (G (20 + 7)))]) hx hb dX11_word_4 rfl hl (by decide) rfl (fun ls hl => ?_)
  refine lv_iconst (v := 0) hx hb dX11_word_5 (by decide) ?_
  refine lv_istore_n (lv' := [(3, .int 0), (2, .int r2), (0, .ref u0), (1, .ref (G (20 + 7)))]) hx hb dX11_word_6 rfl hl (by decide) rfl (fun ls hl => ?_)
  refine lv_iload_n hx hb dX11_word_7 rfl (lv_at hl 0 rfl) ?_
  refine lv_aload_n hx hb dX11_word_8 rfl (lv_at hl 3 rfl) ?_
  have hrv := vk_recv hE0.2.2.2.2.2.2.2.2.2.1 (i := 7) (by decide) h.2.2.1
  refine k_i (r_VK C h hl (As := []) (rest := [.int 0]) (c_length l D G b0 f3 7 (by decide)) hrv mk_J0_length_8abf5 w_1574 w_1252 w_1253 w_1254 ⟨(Nat.le_of_ble_eq_true rfl), (Nat.le_of_ble_eq_true rfl)⟩ rfl (Nat.le_of_ble_eq_true rfl) ⟨(Nat.le_of_ble_eq_true rfl), (Nat.le_of_ble_eq_true rfl)⟩ rfl dX11_word_9) h (fun r8 f9 H locs p10 h => ?_)
  obtain ⟨er8, rfl⟩ := p10
  obtain rfl : (2 : Int32) = r8 := by rw [er8]; decide
  refine lv_icmp_ge (tgt := 55) hx hb dX11_word_12 (by decide) (fun c11 => ?_) (fun c11 => ?_)
  · exact absurd c11 (by decide)
  · refine lv_aload_n hx hb dX11_word_15 rfl (lv_at hl 2 rfl) ?_
    refine t_getfd C h tf3 hu0 (by decide) wf_60 (v := .int aa1_f3) kpu0_3f3 fl_X11_90 dX11_word_16 ?_
    refine lv_iload_n hx hb dX11_word_19 rfl (lv_at hl 0 rfl) ?_
    refine i_addk hx hb dX11_word_20 ipu0_3f3 (k := 0) rfl (lo := 0) (hi := 200) (by decide) (fun z14 ez14 mz14 iz14 => ?_)
    refine lv_aload_n hx hb dX11_word_21 rfl (lv_at hl 2 rfl) ?_
    refine t_getfd C h tf3 hu0 (by decide) wf_60 (v := .int ln) k5 fl_X11_79 dX11_word_22 ?_
    refine lv_icmp_ge (tgt := 47) hx hb dX11_word_25 (by decide) (fun c15 => ?_) (fun c15 => ?_)
    · have c16 : ln.toInt ≤ z14.toInt := Int32.le_iff_toInt_le.mp c15
      refine lv_iconst (v := 0) hx hb dX11_word_47 (by decide) ?_
      exact u_zret C h hr hQ ⟨by decide, by decide⟩ (⟨⟨by decide, by decide⟩, tf3, of3, (fun h_ => absurd h_ (by decide)), (fun _ => (by omega)), ⟨aa1_f3, kpu0_3f3, ipu0_3f3, (by have n1_ : (1 : Int32).toInt = 1 := rfl; have n0_ : (0 : Int32).toInt = 0 := rfl; omega)⟩⟩) (Nat.le_of_ble_eq_true rfl) (Nat.le_of_ble_eq_true rfl) dX11_word_48
    · have c17 : z14.toInt < ln.toInt := Int32.lt_iff_toInt_lt.mp (iv_nle c15)
      have i18 : iv z14 0 199 := iv_Ll c17 iz14 hln (by decide)
      have i19 : iv ln 1 200 := iv_Lr c17 iz14 hln (by decide)
      refine lv_aload_n hx hb dX11_word_28 rfl (lv_at hl 2 rfl) ?_
      refine t_getfd C h tf3 hu0 (by decide) wf_60 (v := .ref tq) k6 fl_X11_9 dX11_word_29 ?_
      refine lv_aload_n hx hb dX11_word_32 rfl (lv_at hl 2 rfl) ?_
      refine t_getfd C h tf3 hu0 (by decide) wf_60 (v := .int aa1_f3) kpu0_3f3 fl_X11_90 dX11_word_33 ?_
      refine lv_iload_n hx hb dX11_word_36 rfl (lv_at hl 0 rfl) ?_
      refine i_addk hx hb dX11_word_37 ipu0_3f3 (k := 0) rfl (lo := 0) (hi := 200) (by decide) (fun z20 ez20 mz20 iz20 => ?_)
      refine e_bald C h tf3 htq (by decide) wf_61 k7 (ix_o (by omega)) dX11_word_38 (fun z21 ez21 iz21 => ?_)
      have mz21 := congrArg Int32.toInt ez21
      have hz21 := hB (rn 32 32 B ln.toInt.toNat aa.toInt.toNat) (by omega)
      have sz21 := sg_c hz21.2
      have qz21 : z21.toInt = sg (B (rn 32 32 B ln.toInt.toNat aa.toInt.toNat)) := by rw [mz21, ← hz21.1]; exact congrArg (fun z_ => (rt z_).toInt) (by omega)
      refine lv_aload_n hx hb dX11_word_39 rfl (lv_at hl 3 rfl) ?_
      refine lv_iload_n hx hb dX11_word_40 rfl (lv_at hl 0 rfl) ?_
      have hrv := vk_recv hE0.2.2.2.2.2.2.2.2.2.1 (i := 7) (by decide) h.2.2.1
      refine k_i (r_VK C h hl (As := [.int 0]) (rest := [.int z21]) (c_charAt l D G b0 f3 7 (by decide) 0 (by decide) (by unfold vp_in; decide)) hrv mk_J0_charAt_5068e w_1575 w_473 w_474 w_475 ⟨(Nat.le_of_ble_eq_true rfl), (Nat.le_of_ble_eq_true rfl)⟩ rfl (Nat.le_of_ble_eq_true rfl) ⟨(Nat.le_of_ble_eq_true rfl), (Nat.le_of_ble_eq_true rfl)⟩ rfl dX11_word_41) h (fun r22 f23 H locs p24 h => ?_)
      obtain ⟨er22, rfl⟩ := p24
      obtain rfl : (110 : Int32) = r22 := by rw [er22]; decide
      refine lv_icmp_eq (tgt := 49) hx hb dX11_word_44 (by decide) (fun c25 => ?_) (fun c25 => ?_)
      · have c26 : z21.toInt = 110 := congrArg Int32.toInt c25
        have i27 : iv z21 110 110 := iv_Q c26 iz21 (iv_k (x := 110) (k := 110) rfl) (by decide)
        refine lv_iinc (v := 1) (lv' := [(3, .int 1), (2, .int r2), (0, .ref u0), (1, .ref (G (20 + 7)))]) hx hb dX11_word_49 hl (k := 0) rfl (by decide) (by decide) rfl (fun ls hl => ?_)
        refine lv_goto (tgt := 7) hx hb dX11_word_52 (by decide) ?_
        refine lv_iload_n hx hb dX11_word_7 rfl (lv_at hl 0 rfl) ?_
        refine lv_aload_n hx hb dX11_word_8 rfl (lv_at hl 3 rfl) ?_
        have hrv := vk_recv hE0.2.2.2.2.2.2.2.2.2.1 (i := 7) (by decide) h.2.2.1
        refine k_i (r_VK C h hl (As := []) (rest := [.int 1]) (c_length l D G b0 f3 7 (by decide)) hrv mk_J0_length_8abf5 w_1574 w_1252 w_1253 w_1254 ⟨(Nat.le_of_ble_eq_true rfl), (Nat.le_of_ble_eq_true rfl)⟩ rfl (Nat.le_of_ble_eq_true rfl) ⟨(Nat.le_of_ble_eq_true rfl), (Nat.le_of_ble_eq_true rfl)⟩ rfl dX11_word_9) h (fun r29 f30 H locs p31 h => ?_)
        obtain ⟨er29, rfl⟩ := p31
        obtain rfl : (2 : Int32) = r29 := by rw [er29]; decide
        refine lv_icmp_ge (tgt := 55) hx hb dX11_word_12 (by decide) (fun c32 => ?_) (fun c32 => ?_)
        · exact absurd c32 (by decide)
        · refine lv_aload_n hx hb dX11_word_15 rfl (lv_at hl 2 rfl) ?_
          refine t_getfd C h tf3 hu0 (by decide) wf_60 (v := .int aa1_f3) kpu0_3f3 fl_X11_90 dX11_word_16 ?_
          refine lv_iload_n hx hb dX11_word_19 rfl (lv_at hl 0 rfl) ?_
          refine i_addk hx hb dX11_word_20 ipu0_3f3 (k := 1) rfl (lo := 1) (hi := 201) (by decide) (fun z35 ez35 mz35 iz35 => ?_)
          refine lv_aload_n hx hb dX11_word_21 rfl (lv_at hl 2 rfl) ?_
          refine t_getfd C h tf3 hu0 (by decide) wf_60 (v := .int ln) k5 fl_X11_79 dX11_word_22 ?_
          refine lv_icmp_ge (tgt := 47) hx hb dX11_word_25 (by decide) (fun c36 => ?_) (fun c36 => ?_)
          · have c37 : ln.toInt ≤ z35.toInt := Int32.le_iff_toInt_le.mp c36
            refine lv_iconst (v := 0) hx hb dX11_word_47 (by decide) ?_
            exact u_zret C h hr hQ ⟨by decide, by decide⟩ (⟨⟨by decide, by decide⟩, tf3, of3, (fun h_ => absurd h_ (by decide)), (fun _ => (by omega)), ⟨aa1_f3, kpu0_3f3, ipu0_3f3, (by have n1_ : (1 : Int32).toInt = 1 := rfl; have n0_ : (0 : Int32).toInt = 0 := rfl; omega)⟩⟩) (Nat.le_of_ble_eq_true rfl) (Nat.le_of_ble_eq_true rfl) dX11_word_48
          · have c38 : z35.toInt < ln.toInt := Int32.lt_iff_toInt_lt.mp (iv_nle c36)
            have i39 : iv z35 1 199 := iv_Ll c38 iz35 i19 (by decide)
            have i40 : iv ln 2 200 := iv_Lr c38 iz35 i19 (by decide)
            refine lv_aload_n hx hb dX11_word_28 rfl (lv_at hl 2 rfl) ?_
            refine t_getfd C h tf3 hu0 (by decide) wf_60 (v := .ref tq) k6 fl_X11_9 dX11_word_29 ?_
            refine lv_aload_n hx hb dX11_word_32 rfl (lv_at hl 2 rfl) ?_
            refine t_getfd C h tf3 hu0 (by decide) wf_60 (v := .int aa1_f3) kpu0_3f3 fl_X11_90 dX11_word_33 ?_
            refine lv_iload_n hx hb dX11_word_36 rfl (lv_at hl 0 rfl) ?_
            refine i_addk hx hb dX11_word_37 ipu0_3f3 (k := 1) rfl (lo := 1) (hi := 201) (by decide) (fun z41 ez41 mz41 iz41 => ?_)
            refine e_bald C h tf3 htq (by decide) wf_61 k7 (ix_o (by omega)) dX11_word_38 (fun z42 ez42 iz42 => ?_)
            have mz42 := congrArg Int32.toInt ez42
            have hz42 := hB ((rn 32 32 B ln.toInt.toNat aa.toInt.toNat) + 1) (by omega)
            have sz42 := sg_c hz42.2
            have qz42 : z42.toInt = sg (B ((rn 32 32 B ln.toInt.toNat aa.toInt.toNat) + 1)) := by rw [mz42, ← hz42.1]; exact congrArg (fun z_ => (rt z_).toInt) (by omega)
            refine lv_aload_n hx hb dX11_word_39 rfl (lv_at hl 3 rfl) ?_
            refine lv_iload_n hx hb dX11_word_40 rfl (lv_at hl 0 rfl) ?_
            have hrv := vk_recv hE0.2.2.2.2.2.2.2.2.2.1 (i := 7) (by decide) h.2.2.1
            refine k_i (r_VK C h hl (As := [.int 1]) (rest := [.int z42]) (c_charAt l D G b0 f3 7 (by decide) 1 (by decide) (by unfold vp_in; decide)) hrv mk_J0_charAt_5068e w_1575 w_473 w_474 w_475 ⟨(Nat.le_of_ble_eq_true rfl), (Nat.le_of_ble_eq_true rfl)⟩ rfl (Nat.le_of_ble_eq_true rfl) ⟨(Nat.le_of_ble_eq_true rfl), (Nat.le_of_ble_eq_true rfl)⟩ rfl dX11_word_41) h (fun r43 f44 H locs p45 h => ?_)
            obtain ⟨er43, rfl⟩ := p45
            obtain rfl : (119 : Int32) = r43 := by rw [er43]; decide
            refine lv_icmp_eq (tgt := 49) hx hb dX11_word_44 (by decide) (fun c46 => ?_) (fun c46 => ?_)
            · have c47 : z42.toInt = 119 := congrArg Int32.toInt c46
              have i48 : iv z42 119 119 := iv_Q c47 iz42 (iv_k (x := 119) (k := 119) rfl) (by decide)
              refine lv_iinc (v := 2) (lv' := [(3, .int 2), (2, .int r2), (0, .ref u0), (1, .ref (G (20 + 7)))]) hx hb dX11_word_49 hl (k := 0) rfl (by decide) (by decide) rfl (fun ls hl => ?_)
              refine lv_goto (tgt := 7) hx hb dX11_word_52 (by decide) ?_
              refine lv_iload_n hx hb dX11_word_7 rfl (lv_at hl 0 rfl) ?_
              refine lv_aload_n hx hb dX11_word_8 rfl (lv_at hl 3 rfl) ?_
              have hrv := vk_recv hE0.2.2.2.2.2.2.2.2.2.1 (i := 7) (by decide) h.2.2.1
              refine k_i (r_VK C h hl (As := []) (rest := [.int 2]) (c_length l D G b0 f3 7 (by decide)) hrv mk_J0_length_8abf5 w_1574 w_1252 w_1253 w_1254 ⟨(Nat.le_of_ble_eq_true rfl), (Nat.le_of_ble_eq_true rfl)⟩ rfl (Nat.le_of_ble_eq_true rfl) ⟨(Nat.le_of_ble_eq_true rfl), (Nat.le_of_ble_eq_true rfl)⟩ rfl dX11_word_9) h (fun r50 f51 H locs p52 h => ?_)
              obtain ⟨er50, rfl⟩ := p52
              obtain rfl : (2 : Int32) = r50 := by rw [er50]; decide
              refine lv_icmp_ge (tgt := 55) hx hb dX11_word_12 (by decide) (fun c53 => ?_) (fun c53 => ?_)
              · refine lv_aload_n hx hb dX11_word_55 rfl (lv_at hl 2 rfl) ?_
                refine t_getfd C h tf3 hu0 (by decide) wf_60 (v := .int aa1_f3) kpu0_3f3 fl_X11_90 dX11_word_56 ?_
                refine lv_aload_n hx hb dX11_word_59 rfl (lv_at hl 3 rfl) ?_
                have hrv := vk_recv hE0.2.2.2.2.2.2.2.2.2.1 (i := 7) (by decide) h.2.2.1
                refine k_i (r_VK C h hl (As := []) (rest := [.int aa1_f3]) (c_length l D G b0 f3 7 (by decide)) hrv mk_J0_length_8abf5 w_1574 w_1252 w_1253 w_1254 ⟨(Nat.le_of_ble_eq_true rfl), (Nat.le_of_ble_eq_true rfl)⟩ rfl (Nat.le_of_ble_eq_true rfl) ⟨(Nat.le_of_ble_eq_true rfl), (Nat.le_of_ble_eq_true rfl)⟩ rfl dX11_word_60) h (fun r56 f57 H locs p58 h => ?_)
                obtain ⟨er56, rfl⟩ := p58
                obtain rfl : (2 : Int32) = r56 := by rw [er56]; decide
                refine i_addk hx hb dX11_word_63 ipu0_3f3 (k := 2) rfl (lo := 2) (hi := 202) (by decide) (fun z59 ez59 mz59 iz59 => ?_)
                refine lv_istore_n (lv' := [(3, .int z59), (2, .int r2), (0, .ref u0), (1, .ref (G (20 + 7)))]) hx hb dX11_word_64 rfl hl (by decide) rfl (fun ls hl => ?_)
                refine lv_iload_n hx hb dX11_word_65 rfl (lv_at hl 0 rfl) ?_
                refine lv_aload_n hx hb dX11_word_66 rfl (lv_at hl 2 rfl) ?_
                refine t_getfd C h tf3 hu0 (by decide) wf_60 (v := .int ln) k5 fl_X11_79 dX11_word_67 ?_
                refine lv_icmp_ge (tgt := 97) hx hb dX11_word_70 (by decide) (fun c60 => ?_) (fun c60 => ?_)
                · have c61 : ln.toInt ≤ z59.toInt := Int32.le_iff_toInt_le.mp c60
                  refine lv_aload_n hx hb dX11_word_97 rfl (lv_at hl 2 rfl) ?_
                  refine lv_iload_n hx hb dX11_word_98 rfl (lv_at hl 0 rfl) ?_
                  refine t_put C h tf3 of3 hu0 (by decide) (by decide) (by decide) wf_60 fw_60 (k := 3) rfl flw_X11_90 (Or.inr ⟨_, _, _, rfl, rfl⟩) (v := .int z59) rfl rfl ⟨_, rfl, (show iv z59 0 200 from by omega)⟩ dX11_word_99 (fun f65 H locs h tf65 of65 hq ha_ hn_ hk_ => ?_)
                  have k66 := hk_ 2 _ (by decide) k5
                  have k67 := hk_ 1 _ (by decide) k6
                  have k68 := atp.tg k7 hq htq (by decide)
                  have k70 := ha_
                  refine lv_iconst (v := 1) hx hb dX11_word_102 (by decide) ?_
                  exact u_zret C h hr hQ ⟨by decide, by decide⟩ (⟨⟨by decide, by decide⟩, tf65, of65, (fun _ => (by omega)), (fun h_ => absurd h_ (by decide)), ⟨z59, k70, (show iv z59 0 200 from by omega), (by have n1_ : (1 : Int32).toInt = 1 := rfl; have n0_ : (0 : Int32).toInt = 0 := rfl; omega)⟩⟩) (Nat.le_of_ble_eq_true rfl) (Nat.le_of_ble_eq_true rfl) dX11_word_103
                · have c62 : z59.toInt < ln.toInt := Int32.lt_iff_toInt_lt.mp (iv_nle c60)
                  have i63 : iv z59 2 199 := iv_Ll c62 iz59 i40 (by decide)
                  have i64 : iv ln 3 200 := iv_Lr c62 iz59 i40 (by decide)
                  refine lv_aload_n hx hb dX11_word_73 rfl (lv_at hl 2 rfl) ?_
                  refine t_getfd C h tf3 hu0 (by decide) wf_60 (v := .ref tq) k6 fl_X11_9 dX11_word_74 ?_
                  refine lv_iload_n hx hb dX11_word_77 rfl (lv_at hl 0 rfl) ?_
                  refine e_bald C h tf3 htq (by decide) wf_61 k7 (iv_in i63 (by decide)) dX11_word_78 (fun z71 ez71 iz71 => ?_)
                  have mz71 := congrArg Int32.toInt ez71
                  have hz71 := hB ((rn 32 32 B ln.toInt.toNat aa.toInt.toNat) + 2) (by omega)
                  have sz71 := sg_c hz71.2
                  have qz71 : z71.toInt = sg (B ((rn 32 32 B ln.toInt.toNat aa.toInt.toNat) + 2)) := by rw [mz71, ← hz71.1]; exact congrArg (fun z_ => (rt z_).toInt) (by omega)
                  refine lv_bipush (v := 97) hx hb dX11_word_79 (by decide) ?_
                  refine lv_icmp_lt (tgt := 97) hx hb dX11_word_81 (by decide) (fun c72 => ?_) (fun c72 => ?_)
                  · have c73 : z71.toInt < 97 := Int32.lt_iff_toInt_lt.mp c72
                    have i74 : iv z71 (-128) 96 := iv_Ll c73 iz71 (iv_k (x := 97) (k := 97) rfl) (by decide)
                    refine lv_aload_n hx hb dX11_word_97 rfl (lv_at hl 2 rfl) ?_
                    refine lv_iload_n hx hb dX11_word_98 rfl (lv_at hl 0 rfl) ?_
                    refine t_put C h tf3 of3 hu0 (by decide) (by decide) (by decide) wf_60 fw_60 (k := 3) rfl flw_X11_90 (Or.inr ⟨_, _, _, rfl, rfl⟩) (v := .int z59) rfl rfl ⟨_, rfl, (iv_w i63 (by decide))⟩ dX11_word_99 (fun f77 H locs h tf77 of77 hq ha_ hn_ hk_ => ?_)
                    have k78 := hk_ 2 _ (by decide) k5
                    have k79 := hk_ 1 _ (by decide) k6
                    have k80 := atp.tg k7 hq htq (by decide)
                    have k82 := ha_
                    refine lv_iconst (v := 1) hx hb dX11_word_102 (by decide) ?_
                    exact u_zret C h hr hQ ⟨by decide, by decide⟩ (⟨⟨by decide, by decide⟩, tf77, of77, (fun _ => (by omega)), (fun h_ => absurd h_ (by decide)), ⟨z59, k82, (iv_w i63 (by decide)), (by have n1_ : (1 : Int32).toInt = 1 := rfl; have n0_ : (0 : Int32).toInt = 0 := rfl; omega)⟩⟩) (Nat.le_of_ble_eq_true rfl) (Nat.le_of_ble_eq_true rfl) dX11_word_103
                  · have c75 : 97 ≤ z71.toInt := Int32.le_iff_toInt_le.mp (iv_nlt c72)
                    have i76 : iv z71 97 127 := iv_Er c75 (iv_k (x := 97) (k := 97) rfl) iz71 (by decide)
                    refine lv_aload_n hx hb dX11_word_84 rfl (lv_at hl 2 rfl) ?_
                    refine t_getfd C h tf3 hu0 (by decide) wf_60 (v := .ref tq) k6 fl_X11_9 dX11_word_85 ?_
                    refine lv_iload_n hx hb dX11_word_88 rfl (lv_at hl 0 rfl) ?_
                    refine e_bald C h tf3 htq (by decide) wf_61 k7 (iv_in i63 (by decide)) dX11_word_89 (fun z83 ez83 iz83 => ?_)
                    have mz83 := congrArg Int32.toInt ez83
                    have hz83 := hB ((rn 32 32 B ln.toInt.toNat aa.toInt.toNat) + 2) (by omega)
                    have sz83 := sg_c hz83.2
                    have qz83 : z83.toInt = sg (B ((rn 32 32 B ln.toInt.toNat aa.toInt.toNat) + 2)) := by rw [mz83, ← hz83.1]; exact congrArg (fun z_ => (rt z_).toInt) (by omega)
                    refine lv_bipush (v := 122) hx hb dX11_word_90 (by decide) ?_
                    refine lv_icmp_gt (tgt := 97) hx hb dX11_word_92 (by decide) (fun c84 => ?_) (fun c84 => ?_)
                    · have c85 : 122 < z83.toInt := Int32.lt_iff_toInt_lt.mp c84
                      have i86 : iv z83 123 127 := iv_Lr c85 (iv_k (x := 122) (k := 122) rfl) iz83 (by decide)
                      refine lv_aload_n hx hb dX11_word_97 rfl (lv_at hl 2 rfl) ?_
                      refine lv_iload_n hx hb dX11_word_98 rfl (lv_at hl 0 rfl) ?_
                      refine t_put C h tf3 of3 hu0 (by decide) (by decide) (by decide) wf_60 fw_60 (k := 3) rfl flw_X11_90 (Or.inr ⟨_, _, _, rfl, rfl⟩) (v := .int z59) rfl rfl ⟨_, rfl, (iv_w i63 (by decide))⟩ dX11_word_99 (fun f89 H locs h tf89 of89 hq ha_ hn_ hk_ => ?_)
                      have k90 := hk_ 2 _ (by decide) k5
                      have k91 := hk_ 1 _ (by decide) k6
                      have k92 := atp.tg k7 hq htq (by decide)
                      have k94 := ha_
                      refine lv_iconst (v := 1) hx hb dX11_word_102 (by decide) ?_
                      exact u_zret C h hr hQ ⟨by decide, by decide⟩ (⟨⟨by decide, by decide⟩, tf89, of89, (fun _ => (by omega)), (fun h_ => absurd h_ (by decide)), ⟨z59, k94, (iv_w i63 (by decide)), (by have n1_ : (1 : Int32).toInt = 1 := rfl; have n0_ : (0 : Int32).toInt = 0 := rfl; omega)⟩⟩) (Nat.le_of_ble_eq_true rfl) (Nat.le_of_ble_eq_true rfl) dX11_word_103
                    · have c87 : z83.toInt ≤ 122 := Int32.le_iff_toInt_le.mp (iv_nlt c84)
                      have i88 : iv z83 (-128) 122 := iv_El c87 iz83 (iv_k (x := 122) (k := 122) rfl) (by decide)
                      refine lv_iconst (v := 0) hx hb dX11_word_95 (by decide) ?_
                      exact u_zret C h hr hQ ⟨by decide, by decide⟩ (⟨⟨by decide, by decide⟩, tf3, of3, (fun h_ => absurd h_ (by decide)), (fun _ => (by omega)), ⟨aa1_f3, kpu0_3f3, ipu0_3f3, (by have n1_ : (1 : Int32).toInt = 1 := rfl; have n0_ : (0 : Int32).toInt = 0 := rfl; omega)⟩⟩) (Nat.le_of_ble_eq_true rfl) (Nat.le_of_ble_eq_true rfl) dX11_word_96
              · exact absurd c53 (by decide)
            · have c49 : z42.toInt ≠ 119 := fun z_ => c46 (Int32.toInt_inj.mp z_)
              refine lv_iconst (v := 0) hx hb dX11_word_47 (by decide) ?_
              exact u_zret C h hr hQ ⟨by decide, by decide⟩ (⟨⟨by decide, by decide⟩, tf3, of3, (fun h_ => absurd h_ (by decide)), (fun _ => (by omega)), ⟨aa1_f3, kpu0_3f3, ipu0_3f3, (by have n1_ : (1 : Int32).toInt = 1 := rfl; have n0_ : (0 : Int32).toInt = 0 := rfl; omega)⟩⟩) (Nat.le_of_ble_eq_true rfl) (Nat.le_of_ble_eq_true rfl) dX11_word_48
      · have c28 : z21.toInt ≠ 110 := fun z_ => c25 (Int32.toInt_inj.mp z_)
        refine lv_iconst (v := 0) hx hb dX11_word_47 (by decide) ?_
        exact u_zret C h hr hQ ⟨by decide, by decide⟩ (⟨⟨by decide, by decide⟩, tf3, of3, (fun h_ => absurd h_ (by decide)), (fun _ => (by omega)), ⟨aa1_f3, kpu0_3f3, ipu0_3f3, (by have n1_ : (1 : Int32).toInt = 1 := rfl; have n0_ : (0 : Int32).toInt = 0 := rfl; omega)⟩⟩) (Nat.le_of_ble_eq_true rfl) (Nat.le_of_ble_eq_true rfl) dX11_word_48
abbrev rm_s_X11_wordX8 : Room := { frames := 4, cells := 0, slots := 0, locals := 85 }
set_option maxRecDepth 100000 in
set_option maxHeartbeats 4000000 in
theorem s_X11_wordX8 (l : Launch) (D : va_G) (G : Nat → Nat) (b0 : Nat) (τ : Nat → Nat) (f : hM) (t : TI G 9 τ f) (u0 : Nat) (hu0 : τ u0 = 60) (ln : Int32) (hln : iv ln 0 200) (k_u0_2 : atp f u0 (fd 2 (.int ln))) (aa : Int32) (haa : iv aa 0 200) (k_u0_3 : atp f u0 (fd 3 (.int aa))) (tq : Nat) (htq : τ tq = 61) (k_u0_1 : atp f u0 (fd 1 (.ref tq))) (rt : Nat → Int32) (hRtq : atp f tq (eqc (.inl (G 0, 200, .inl rt)))) (B : Nat → Int) (hB : ∀ k : Nat, (k : Int) < ln.toInt → (rt k).toInt = sg (B k) ∧ 0 ≤ B k ∧ B k ≤ 255)  : mI l yX11_word cX11_word 4 (.boolean) rm_s_X11_wordX8 D G b0 f [.ref u0, .ref (G (20 + 8))] (fun r f1 => iv r 0 1 ∧ TI G 9 τ f1 ∧ Fr [60, 60004] τ f f1 ∧ (r.toInt ≠ 0 → (((((rn 32 32 B ln.toInt.toNat aa.toInt.toNat) + 4 : Nat) : Int) ≤ ln.toInt) ∧ B (rn 32 32 B ln.toInt.toNat aa.toInt.toNat) = 102 ∧ B ((rn 32 32 B ln.toInt.toNat aa.toInt.toNat) + 1) = 114 ∧ B ((rn 32 32 B ln.toInt.toNat aa.toInt.toNat) + 2) = 111 ∧ B ((rn 32 32 B ln.toInt.toNat aa.toInt.toNat) + 3) = 109 ∧ ¬ (((((rn 32 32 B ln.toInt.toNat aa.toInt.toNat) + 4 : Nat) : Int) < ln.toInt) ∧ 97 ≤ B ((rn 32 32 B ln.toInt.toNat aa.toInt.toNat) + 4) ∧ B ((rn 32 32 B ln.toInt.toNat aa.toInt.toNat) + 4) ≤ 122))) ∧ (r.toInt = 0 → ¬ (((((rn 32 32 B ln.toInt.toNat aa.toInt.toNat) + 4 : Nat) : Int) ≤ ln.toInt) ∧ B (rn 32 32 B ln.toInt.toNat aa.toInt.toNat) = 102 ∧ B ((rn 32 32 B ln.toInt.toNat aa.toInt.toNat) + 1) = 114 ∧ B ((rn 32 32 B ln.toInt.toNat aa.toInt.toNat) + 2) = 111 ∧ B ((rn 32 32 B ln.toInt.toNat aa.toInt.toNat) + 3) = 109 ∧ ¬ (((((rn 32 32 B ln.toInt.toNat aa.toInt.toNat) + 4 : Nat) : Int) < ln.toInt) ∧ 97 ≤ B ((rn 32 32 B ln.toInt.toNat aa.toInt.toNat) + 4) ∧ B ((rn 32 32 B ln.toInt.toNat aa.toInt.toNat) + 4) ≤ 122))) ∧ (∃ aa1 : Int32, atp f1 u0 (fd 3 (.int aa1)) ∧ iv aa1 0 200 ∧ (r.toInt ≠ 0 → aa1.toInt = (((rn 32 32 B ln.toInt.toNat aa.toInt.toNat) : Nat) : Int) + 4) ∧ (r.toInt = 0 → aa1.toInt = (((rn 32 32 B ln.toInt.toNat aa.toInt.toNat) : Nat) : Int)))) := by
  refine met2 (own := RX11) (by decide) rfl (Nat.le_of_ble_eq_true rfl) ?_
  intro p e s m args below meth c ls Q hQ C hr hini hl h
  have hl : lv_has ls 4 [(0, .ref u0), (1, .ref (G (20 + 8)))] := hl
  obtain ⟨hx, hb, hml, hown, hts, hE0, hlk⟩ := id C
  have o := Fr.rf [60, 60004] τ f
  refine lv_aload_n hx hb dX11_word_0 rfl (lv_at hl 0 rfl) ?_
  obtain ⟨_, r1⟩ := t_rec t hu0 (by decide) wf_60
  refine k_i (r_V C h hl (As := []) (rest := []) (s_X11_lookX l D G b0 τ f t u0 hu0 ln hln k_u0_2 aa haa k_u0_3 tq htq k_u0_1 rt hRtq B hB) r1 (Cn := RX11) (T := TX11) (N := 32) rfl rfl mk_X11_look w_1557 w_1559 w_40 w_1560 ⟨Nat.le_of_ble_eq_true rfl, Nat.le_of_ble_eq_true rfl⟩ rfl (Nat.le_of_ble_eq_true rfl) ⟨Nat.le_of_ble_eq_true rfl, Nat.le_of_ble_eq_true rfl⟩ rfl dX11_word_1) h (fun r2 f3 H locs p4 h => ?_)
  obtain ⟨ir2, tf3, ogf3, x0r2, ⟨aa1_f3, kpu0_3f3, ipu0_3f3, rpu0_3f3⟩⟩ := p4
  have of3 : Fr [60, 60004] τ f f3 := Fr.tr o ogf3 (by decide) (by decide)
  have k5 := atp.fk k_u0_2 ogf3 hu0 (by decide) (by decide)
  have k6 := atp.fk k_u0_1 ogf3 hu0 (by decide) (by decide)
  have k7 := atp.fr hRtq ogf3 htq (by decide)
  refine lv_istore_n (lv' := [(2, .int r2), (0, .ref u0), (1, .ref (G (20 + 8)))]) hx hb dX11_word_4 rfl hl (by decide) rfl (fun ls hl => ?_)
  refine lv_iconst (v := 0) hx hb dX11_word_5 (by decide) ?_
  refine lv_istore_n (lv' := [(3, .int 0), (2, .int r2), (0, .ref u0), (1, .ref (G (20 + 8)))]) hx hb dX11_word_6 rfl hl (by decide) rfl (fun ls hl => ?_)
  refine lv_iload_n hx hb dX11_word_7 rfl (lv_at hl 0 rfl) ?_
  refine lv_aload_n hx hb dX11_word_8 rfl (lv_at hl 3 rfl) ?_
  have hrv := vk_recv hE0.2.2.2.2.2.2.2.2.2.1 (i := 8) (by decide) h.2.2.1
  refine k_i (r_VK C h hl (As := []) (rest := [.int 0]) (c_length l D G b0 f3 8 (by decide)) hrv mk_J0_length_8abf5 w_1574 w_1252 w_1253 w_1254 ⟨(Nat.le_of_ble_eq_true rfl), (Nat.le_of_ble_eq_true rfl)⟩ rfl (Nat.le_of_ble_eq_true rfl) ⟨(Nat.le_of_ble_eq_true rfl), (Nat.le_of_ble_eq_true rfl)⟩ rfl dX11_word_9) h (fun r8 f9 H locs p10 h => ?_)
  obtain ⟨er8, rfl⟩ := p10
  obtain rfl : (4 : Int32) = r8 := by rw [er8]; decide
  refine lv_icmp_ge (tgt := 55) hx hb dX11_word_12 (by decide) (fun c11 => ?_) (fun c11 => ?_)
  · exact absurd c11 (by decide)
  · refine lv_aload_n hx hb dX11_word_15 rfl (lv_at hl 2 rfl) ?_
    refine t_getfd C h tf3 hu0 (by decide) wf_60 (v := .int aa1_f3) kpu0_3f3 fl_X11_90 dX11_word_16 ?_
    refine lv_iload_n hx hb dX11_word_19 rfl (lv_at hl 0 rfl) ?_
    refine i_addk hx hb dX11_word_20 ipu0_3f3 (k := 0) rfl (lo := 0) (hi := 200) (by decide) (fun z14 ez14 mz14 iz14 => ?_)
    refine lv_aload_n hx hb dX11_word_21 rfl (lv_at hl 2 rfl) ?_
    refine t_getfd C h tf3 hu0 (by decide) wf_60 (v := .int ln) k5 fl_X11_79 dX11_word_22 ?_
    refine lv_icmp_ge (tgt := 47) hx hb dX11_word_25 (by decide) (fun c15 => ?_) (fun c15 => ?_)
    · have c16 : ln.toInt ≤ z14.toInt := Int32.le_iff_toInt_le.mp c15
      refine lv_iconst (v := 0) hx hb dX11_word_47 (by decide) ?_
      exact u_zret C h hr hQ ⟨by decide, by decide⟩ (⟨⟨by decide, by decide⟩, tf3, of3, (fun h_ => absurd h_ (by decide)), (fun _ => (by omega)), ⟨aa1_f3, kpu0_3f3, ipu0_3f3, (by have n1_ : (1 : Int32).toInt = 1 := rfl; have n0_ : (0 : Int32).toInt = 0 := rfl; omega)⟩⟩) (Nat.le_of_ble_eq_true rfl) (Nat.le_of_ble_eq_true rfl) dX11_word_48
    · have c17 : z14.toInt < ln.toInt := Int32.lt_iff_toInt_lt.mp (iv_nle c15)
      have i18 : iv z14 0 199 := iv_Ll c17 iz14 hln (by decide)
      have i19 : iv ln 1 200 := iv_Lr c17 iz14 hln (by decide)
      refine lv_aload_n hx hb dX11_word_28 rfl (lv_at hl 2 rfl) ?_
      refine t_getfd C h tf3 hu0 (by decide) wf_60 (v := .ref tq) k6 fl_X11_9 dX11_word_29 ?_
      refine lv_aload_n hx hb dX11_word_32 rfl (lv_at hl 2 rfl) ?_
      refine t_getfd C h tf3 hu0 (by decide) wf_60 (v := .int aa1_f3) kpu0_3f3 fl_X11_90 dX11_word_33 ?_
      refine lv_iload_n hx hb dX11_word_36 rfl (lv_at hl 0 rfl) ?_
      refine i_addk hx hb dX11_word_37 ipu0_3f3 (k := 0) rfl (lo := 0) (hi := 200) (by decide) (fun z20 ez20 mz20 iz20 => ?_)
      refine e_bald C h tf3 htq (by decide) wf_61 k7 (ix_o (by omega)) dX11_word_38 (fun z21 ez21 iz21 => ?_)
      have mz21 := congrArg Int32.toInt ez21
      have hz21 := hB (rn 32 32 B ln.toInt.toNat aa.toInt.toNat) (by omega)
      have sz21 := sg_c hz21.2
      have qz21 : z21.toInt = sg (B (rn 32 32 B ln.toInt.toNat aa.toInt.toNat)) := by rw [mz21, ← hz21.1]; exact congrArg (fun z_ => (rt z_).toInt) (by omega)
      refine lv_aload_n hx hb dX11_word_39 rfl (lv_at hl 3 rfl) ?_
      refine lv_iload_n hx hb dX11_word_40 rfl (lv_at hl 0 rfl) ?_
      have hrv := vk_recv hE0.2.2.2.2.2.2.2.2.2.1 (i := 8) (by decide) h.2.2.1
      refine k_i (r_VK C h hl (As := [.int 0]) (rest := [.int z21]) (c_charAt l D G b0 f3 8 (by decide) 0 (by decide) (by unfold vp_in; decide)) hrv mk_J0_charAt_5068e w_1575 w_473 w_474 w_475 ⟨(Nat.le_of_ble_eq_true rfl), (Nat.le_of_ble_eq_true rfl)⟩ rfl (Nat.le_of_ble_eq_true rfl) ⟨(Nat.le_of_ble_eq_true rfl), (Nat.le_of_ble_eq_true rfl)⟩ rfl dX11_word_41) h (fun r22 f23 H locs p24 h => ?_)
      obtain ⟨er22, rfl⟩ := p24
      obtain rfl : (102 : Int32) = r22 := by rw [er22]; decide
      refine lv_icmp_eq (tgt := 49) hx hb dX11_word_44 (by decide) (fun c25 => ?_) (fun c25 => ?_)
      · have c26 : z21.toInt = 102 := congrArg Int32.toInt c25
        have i27 : iv z21 102 102 := iv_Q c26 iz21 (iv_k (x := 102) (k := 102) rfl) (by decide)
        refine lv_iinc (v := 1) (lv' := [(3, .int 1), (2, .int r2), (0, .ref u0), (1, .ref (G (20 + 8)))]) hx hb dX11_word_49 hl (k := 0) rfl (by decide) (by decide) rfl (fun ls hl => ?_)
        refine lv_goto (tgt := 7) hx hb dX11_word_52 (by decide) ?_
        refine lv_iload_n hx hb dX11_word_7 rfl (lv_at hl 0 rfl) ?_
        refine lv_aload_n hx hb dX11_word_8 rfl (lv_at hl 3 rfl) ?_
        have hrv := vk_recv hE0.2.2.2.2.2.2.2.2.2.1 (i := 8) (by decide) h.2.2.1
        refine k_i (r_VK C h hl (As := []) (rest := [.int 1]) (c_length l D G b0 f3 8 (by decide)) hrv mk_J0_length_8abf5 w_1574 w_1252 w_1253 w_1254 ⟨(Nat.le_of_ble_eq_true rfl), (Nat.le_of_ble_eq_true rfl)⟩ rfl (Nat.le_of_ble_eq_true rfl) ⟨(Nat.le_of_ble_eq_true rfl), (Nat.le_of_ble_eq_true rfl)⟩ rfl dX11_word_9) h (fun r29 f30 H locs p31 h => ?_)
        obtain ⟨er29, rfl⟩ := p31
        obtain rfl : (4 : Int32) = r29 := by rw [er29]; decide
        refine lv_icmp_ge (tgt := 55) hx hb dX11_word_12 (by decide) (fun c32 => ?_) (fun c32 => ?_)
        · exact absurd c32 (by decide)
        · refine lv_aload_n hx hb dX11_word_15 rfl (lv_at hl 2 rfl) ?_
          refine t_getfd C h tf3 hu0 (by decide) wf_60 (v := .int aa1_f3) kpu0_3f3 fl_X11_90 dX11_word_16 ?_
          refine lv_iload_n hx hb dX11_word_19 rfl (lv_at hl 0 rfl) ?_
          refine i_addk hx hb dX11_word_20 ipu0_3f3 (k := 1) rfl (lo := 1) (hi := 201) (by decide) (fun z35 ez35 mz35 iz35 => ?_)
          refine lv_aload_n hx hb dX11_word_21 rfl (lv_at hl 2 rfl) ?_
          refine t_getfd C h tf3 hu0 (by decide) wf_60 (v := .int ln) k5 fl_X11_79 dX11_word_22 ?_
          refine lv_icmp_ge (tgt := 47) hx hb dX11_word_25 (by decide) (fun c36 => ?_) (fun c36 => ?_)
          · have c37 : ln.toInt ≤ z35.toInt := Int32.le_iff_toInt_le.mp c36
            refine lv_iconst (v := 0) hx hb dX11_word_47 (by decide) ?_
            exact u_zret C h hr hQ ⟨by decide, by decide⟩ (⟨⟨by decide, by decide⟩, tf3, of3, (fun h_ => absurd h_ (by decide)), (fun _ => (by omega)), ⟨aa1_f3, kpu0_3f3, ipu0_3f3, (by have n1_ : (1 : Int32).toInt = 1 := rfl; have n0_ : (0 : Int32).toInt = 0 := rfl; omega)⟩⟩) (Nat.le_of_ble_eq_true rfl) (Nat.le_of_ble_eq_true rfl) dX11_word_48
          · have c38 : z35.toInt < ln.toInt := Int32.lt_iff_toInt_lt.mp (iv_nle c36)
            have i39 : iv z35 1 199 := iv_Ll c38 iz35 i19 (by decide)
            have i40 : iv ln 2 200 := iv_Lr c38 iz35 i19 (by decide)
            refine lv_aload_n hx hb dX11_word_28 rfl (lv_at hl 2 rfl) ?_
            refine t_getfd C h tf3 hu0 (by decide) wf_60 (v := .ref tq) k6 fl_X11_9 dX11_word_29 ?_
            refine lv_aload_n hx hb dX11_word_32 rfl (lv_at hl 2 rfl) ?_
            refine t_getfd C h tf3 hu0 (by decide) wf_60 (v := .int aa1_f3) kpu0_3f3 fl_X11_90 dX11_word_33 ?_
            refine lv_iload_n hx hb dX11_word_36 rfl (lv_at hl 0 rfl) ?_
            refine i_addk hx hb dX11_word_37 ipu0_3f3 (k := 1) rfl (lo := 1) (hi := 201) (by decide) (fun z41 ez41 mz41 iz41 => ?_)
            refine e_bald C h tf3 htq (by decide) wf_61 k7 (ix_o (by omega)) dX11_word_38 (fun z42 ez42 iz42 => ?_)
            have mz42 := congrArg Int32.toInt ez42
            have hz42 := hB ((rn 32 32 B ln.toInt.toNat aa.toInt.toNat) + 1) (by omega)
            have sz42 := sg_c hz42.2
            have qz42 : z42.toInt = sg (B ((rn 32 32 B ln.toInt.toNat aa.toInt.toNat) + 1)) := by rw [mz42, ← hz42.1]; exact congrArg (fun z_ => (rt z_).toInt) (by omega)
            refine lv_aload_n hx hb dX11_word_39 rfl (lv_at hl 3 rfl) ?_
            refine lv_iload_n hx hb dX11_word_40 rfl (lv_at hl 0 rfl) ?_
            have hrv := vk_recv hE0.2.2.2.2.2.2.2.2.2.1 (i := 8) (by decide) h.2.2.1
            refine k_i (r_VK C h hl (As := [.int 1]) (rest := [.int z42]) (c_charAt l D G b0 f3 8 (by decide) 1 (by decide) (by unfold vp_in; decide)) hrv mk_J0_charAt_5068e w_1575 w_473 w_474 w_475 ⟨(Nat.le_of_ble_eq_true rfl), (Nat.le_of_ble_eq_true rfl)⟩ rfl (Nat.le_of_ble_eq_true rfl) ⟨(Nat.le_of_ble_eq_true rfl), (Nat.le_of_ble_eq_true rfl)⟩ rfl dX11_word_41) h (fun r43 f44 H locs p45 h => ?_)
            obtain ⟨er43, rfl⟩ := p45
            obtain rfl : (114 : Int32) = r43 := by rw [er43]; decide
            refine lv_icmp_eq (tgt := 49) hx hb dX11_word_44 (by decide) (fun c46 => ?_) (fun c46 => ?_)
            · have c47 : z42.toInt = 114 := congrArg Int32.toInt c46
              have i48 : iv z42 114 114 := iv_Q c47 iz42 (iv_k (x := 114) (k := 114) rfl) (by decide)
              refine lv_iinc (v := 2) (lv' := [(3, .int 2), (2, .int r2), (0, .ref u0), (1, .ref (G (20 + 8)))]) hx hb dX11_word_49 hl (k := 0) rfl (by decide) (by decide) rfl (fun ls hl => ?_)
              refine lv_goto (tgt := 7) hx hb dX11_word_52 (by decide) ?_
              refine lv_iload_n hx hb dX11_word_7 rfl (lv_at hl 0 rfl) ?_
              refine lv_aload_n hx hb dX11_word_8 rfl (lv_at hl 3 rfl) ?_
              have hrv := vk_recv hE0.2.2.2.2.2.2.2.2.2.1 (i := 8) (by decide) h.2.2.1
              refine k_i (r_VK C h hl (As := []) (rest := [.int 2]) (c_length l D G b0 f3 8 (by decide)) hrv mk_J0_length_8abf5 w_1574 w_1252 w_1253 w_1254 ⟨(Nat.le_of_ble_eq_true rfl), (Nat.le_of_ble_eq_true rfl)⟩ rfl (Nat.le_of_ble_eq_true rfl) ⟨(Nat.le_of_ble_eq_true rfl), (Nat.le_of_ble_eq_true rfl)⟩ rfl dX11_word_9) h (fun r50 f51 H locs p52 h => ?_)
              obtain ⟨er50, rfl⟩ := p52
              obtain rfl : (4 : Int32) = r50 := by rw [er50]; decide
              refine lv_icmp_ge (tgt := 55) hx hb dX11_word_12 (by decide) (fun c53 => ?_) (fun c53 => ?_)
              · exact absurd c53 (by decide)
              · refine lv_aload_n hx hb dX11_word_15 rfl (lv_at hl 2 rfl) ?_
                refine t_getfd C h tf3 hu0 (by decide) wf_60 (v := .int aa1_f3) kpu0_3f3 fl_X11_90 dX11_word_16 ?_
                refine lv_iload_n hx hb dX11_word_19 rfl (lv_at hl 0 rfl) ?_
                refine i_addk hx hb dX11_word_20 ipu0_3f3 (k := 2) rfl (lo := 2) (hi := 202) (by decide) (fun z56 ez56 mz56 iz56 => ?_)
                refine lv_aload_n hx hb dX11_word_21 rfl (lv_at hl 2 rfl) ?_
                refine t_getfd C h tf3 hu0 (by decide) wf_60 (v := .int ln) k5 fl_X11_79 dX11_word_22 ?_
                refine lv_icmp_ge (tgt := 47) hx hb dX11_word_25 (by decide) (fun c57 => ?_) (fun c57 => ?_)
                · have c58 : ln.toInt ≤ z56.toInt := Int32.le_iff_toInt_le.mp c57
                  refine lv_iconst (v := 0) hx hb dX11_word_47 (by decide) ?_
                  exact u_zret C h hr hQ ⟨by decide, by decide⟩ (⟨⟨by decide, by decide⟩, tf3, of3, (fun h_ => absurd h_ (by decide)), (fun _ => (by omega)), ⟨aa1_f3, kpu0_3f3, ipu0_3f3, (by have n1_ : (1 : Int32).toInt = 1 := rfl; have n0_ : (0 : Int32).toInt = 0 := rfl; omega)⟩⟩) (Nat.le_of_ble_eq_true rfl) (Nat.le_of_ble_eq_true rfl) dX11_word_48
                · have c59 : z56.toInt < ln.toInt := Int32.lt_iff_toInt_lt.mp (iv_nle c57)
                  have i60 : iv z56 2 199 := iv_Ll c59 iz56 i40 (by decide)
                  have i61 : iv ln 3 200 := iv_Lr c59 iz56 i40 (by decide)
                  refine lv_aload_n hx hb dX11_word_28 rfl (lv_at hl 2 rfl) ?_
                  refine t_getfd C h tf3 hu0 (by decide) wf_60 (v := .ref tq) k6 fl_X11_9 dX11_word_29 ?_
                  refine lv_aload_n hx hb dX11_word_32 rfl (lv_at hl 2 rfl) ?_
                  refine t_getfd C h tf3 hu0 (by decide) wf_60 (v := .int aa1_f3) kpu0_3f3 fl_X11_90 dX11_word_33 ?_
                  refine lv_iload_n hx hb dX11_word_36 rfl (lv_at hl 0 rfl) ?_
                  refine i_addk hx hb dX11_word_37 ipu0_3f3 (k := 2) rfl (lo := 2) (hi := 202) (by decide) (fun z62 ez62 mz62 iz62 => ?_)
                  refine e_bald C h tf3 htq (by decide) wf_61 k7 (ix_o (by omega)) dX11_word_38 (fun z63 ez63 iz63 => ?_)
                  have mz63 := congrArg Int32.toInt ez63
                  have hz63 := hB ((rn 32 32 B ln.toInt.toNat aa.toInt.toNat) + 2) (by omega)
                  have sz63 := sg_c hz63.2
                  have qz63 : z63.toInt = sg (B ((rn 32 32 B ln.toInt.toNat aa.toInt.toNat) + 2)) := by rw [mz63, ← hz63.1]; exact congrArg (fun z_ => (rt z_).toInt) (by omega)
                  refine lv_aload_n hx hb dX11_word_39 rfl (lv_at hl 3 rfl) ?_
                  refine lv_iload_n hx hb dX11_word_40 rfl (lv_at hl 0 rfl) ?_
                  have hrv := vk_recv hE0.2.2.2.2.2.2.2.2.2.1 (i := 8) (by decide) h.2.2.1
                  refine k_i (r_VK C h hl (As := [.int 2]) (rest := [.int z63]) (c_charAt l D G b0 f3 8 (by decide) 2 (by decide) (by unfold vp_in; decide)) hrv mk_J0_charAt_5068e w_1575 w_473 w_474 w_475 ⟨(Nat.le_of_ble_eq_true rfl), (Nat.le_of_ble_eq_true rfl)⟩ rfl (Nat.le_of_ble_eq_true rfl) ⟨(Nat.le_of_ble_eq_true rfl), (Nat.le_of_ble_eq_true rfl)⟩ rfl dX11_word_41) h (fun r64 f65 H locs p66 h => ?_)
                  obtain ⟨er64, rfl⟩ := p66
                  obtain rfl : (111 : Int32) = r64 := by rw [er64]; decide
                  refine lv_icmp_eq (tgt := 49) hx hb dX11_word_44 (by decide) (fun c67 => ?_) (fun c67 => ?_)
                  · have c68 : z63.toInt = 111 := congrArg Int32.toInt c67
                    have i69 : iv z63 111 111 := iv_Q c68 iz63 (iv_k (x := 111) (k := 111) rfl) (by decide)
                    refine lv_iinc (v := 3) (lv' := [(3, .int 3), (2, .int r2), (0, .ref u0), (1, .ref (G (20 + 8)))]) hx hb dX11_word_49 hl (k := 0) rfl (by decide) (by decide) rfl (fun ls hl => ?_)
                    refine lv_goto (tgt := 7) hx hb dX11_word_52 (by decide) ?_
                    refine lv_iload_n hx hb dX11_word_7 rfl (lv_at hl 0 rfl) ?_
                    refine lv_aload_n hx hb dX11_word_8 rfl (lv_at hl 3 rfl) ?_
                    have hrv := vk_recv hE0.2.2.2.2.2.2.2.2.2.1 (i := 8) (by decide) h.2.2.1
                    refine k_i (r_VK C h hl (As := []) (rest := [.int 3]) (c_length l D G b0 f3 8 (by decide)) hrv mk_J0_length_8abf5 w_1574 w_1252 w_1253 w_1254 ⟨(Nat.le_of_ble_eq_true rfl), (Nat.le_of_ble_eq_true rfl)⟩ rfl (Nat.le_of_ble_eq_true rfl) ⟨(Nat.le_of_ble_eq_true rfl), (Nat.le_of_ble_eq_true rfl)⟩ rfl dX11_word_9) h (fun r71 f72 H locs p73 h => ?_)
                    obtain ⟨er71, rfl⟩ := p73
                    obtain rfl : (4 : Int32) = r71 := by rw [er71]; decide
                    refine lv_icmp_ge (tgt := 55) hx hb dX11_word_12 (by decide) (fun c74 => ?_) (fun c74 => ?_)
                    · exact absurd c74 (by decide)
                    · refine lv_aload_n hx hb dX11_word_15 rfl (lv_at hl 2 rfl) ?_
                      refine t_getfd C h tf3 hu0 (by decide) wf_60 (v := .int aa1_f3) kpu0_3f3 fl_X11_90 dX11_word_16 ?_
                      refine lv_iload_n hx hb dX11_word_19 rfl (lv_at hl 0 rfl) ?_
                      refine i_addk hx hb dX11_word_20 ipu0_3f3 (k := 3) rfl (lo := 3) (hi := 203) (by decide) (fun z77 ez77 mz77 iz77 => ?_)
                      refine lv_aload_n hx hb dX11_word_21 rfl (lv_at hl 2 rfl) ?_
                      refine t_getfd C h tf3 hu0 (by decide) wf_60 (v := .int ln) k5 fl_X11_79 dX11_word_22 ?_
                      refine lv_icmp_ge (tgt := 47) hx hb dX11_word_25 (by decide) (fun c78 => ?_) (fun c78 => ?_)
                      · have c79 : ln.toInt ≤ z77.toInt := Int32.le_iff_toInt_le.mp c78
                        refine lv_iconst (v := 0) hx hb dX11_word_47 (by decide) ?_
                        exact u_zret C h hr hQ ⟨by decide, by decide⟩ (⟨⟨by decide, by decide⟩, tf3, of3, (fun h_ => absurd h_ (by decide)), (fun _ => (by omega)), ⟨aa1_f3, kpu0_3f3, ipu0_3f3, (by have n1_ : (1 : Int32).toInt = 1 := rfl; have n0_ : (0 : Int32).toInt = 0 := rfl; omega)⟩⟩) (Nat.le_of_ble_eq_true rfl) (Nat.le_of_ble_eq_true rfl) dX11_word_48
                      · have c80 : z77.toInt < ln.toInt := Int32.lt_iff_toInt_lt.mp (iv_nle c78)
                        have i81 : iv z77 3 199 := iv_Ll c80 iz77 i61 (by decide)
                        have i82 : iv ln 4 200 := iv_Lr c80 iz77 i61 (by decide)
                        refine lv_aload_n hx hb dX11_word_28 rfl (lv_at hl 2 rfl) ?_
                        refine t_getfd C h tf3 hu0 (by decide) wf_60 (v := .ref tq) k6 fl_X11_9 dX11_word_29 ?_
                        refine lv_aload_n hx hb dX11_word_32 rfl (lv_at hl 2 rfl) ?_
                        refine t_getfd C h tf3 hu0 (by decide) wf_60 (v := .int aa1_f3) kpu0_3f3 fl_X11_90 dX11_word_33 ?_
                        refine lv_iload_n hx hb dX11_word_36 rfl (lv_at hl 0 rfl) ?_
                        refine i_addk hx hb dX11_word_37 ipu0_3f3 (k := 3) rfl (lo := 3) (hi := 203) (by decide) (fun z83 ez83 mz83 iz83 => ?_)
                        refine e_bald C h tf3 htq (by decide) wf_61 k7 (ix_o (by omega)) dX11_word_38 (fun z84 ez84 iz84 => ?_)
                        have mz84 := congrArg Int32.toInt ez84
                        have hz84 := hB ((rn 32 32 B ln.toInt.toNat aa.toInt.toNat) + 3) (by omega)
                        have sz84 := sg_c hz84.2
                        have qz84 : z84.toInt = sg (B ((rn 32 32 B ln.toInt.toNat aa.toInt.toNat) + 3)) := by rw [mz84, ← hz84.1]; exact congrArg (fun z_ => (rt z_).toInt) (by omega)
                        refine lv_aload_n hx hb dX11_word_39 rfl (lv_at hl 3 rfl) ?_
                        refine lv_iload_n hx hb dX11_word_40 rfl (lv_at hl 0 rfl) ?_
                        have hrv := vk_recv hE0.2.2.2.2.2.2.2.2.2.1 (i := 8) (by decide) h.2.2.1
                        refine k_i (r_VK C h hl (As := [.int 3]) (rest := [.int z84]) (c_charAt l D G b0 f3 8 (by decide) 3 (by decide) (by unfold vp_in; decide)) hrv mk_J0_charAt_5068e w_1575 w_473 w_474 w_475 ⟨(Nat.le_of_ble_eq_true rfl), (Nat.le_of_ble_eq_true rfl)⟩ rfl (Nat.le_of_ble_eq_true rfl) ⟨(Nat.le_of_ble_eq_true rfl), (Nat.le_of_ble_eq_true rfl)⟩ rfl dX11_word_41) h (fun r85 f86 H locs p87 h => ?_)
                        obtain ⟨er85, rfl⟩ := p87
                        obtain rfl : (109 : Int32) = r85 := by rw [er85]; decide
                        refine lv_icmp_eq (tgt := 49) hx hb dX11_word_44 (by decide) (fun c88 => ?_) (fun c88 => ?_)
                        · have c89 : z84.toInt = 109 := congrArg Int32.toInt c88
                          have i90 : iv z84 109 109 := iv_Q c89 iz84 (iv_k (x := 109) (k := 109) rfl) (by decide)
                          refine lv_iinc (v := 4) (lv' := [(3, .int 4), (2, .int r2), (0, .ref u0), (1, .ref (G (20 + 8)))]) hx hb dX11_word_49 hl (k := 0) rfl (by decide) (by decide) rfl (fun ls hl => ?_)
                          refine lv_goto (tgt := 7) hx hb dX11_word_52 (by decide) ?_
                          refine lv_iload_n hx hb dX11_word_7 rfl (lv_at hl 0 rfl) ?_
                          refine lv_aload_n hx hb dX11_word_8 rfl (lv_at hl 3 rfl) ?_
                          have hrv := vk_recv hE0.2.2.2.2.2.2.2.2.2.1 (i := 8) (by decide) h.2.2.1
                          refine k_i (r_VK C h hl (As := []) (rest := [.int 4]) (c_length l D G b0 f3 8 (by decide)) hrv mk_J0_length_8abf5 w_1574 w_1252 w_1253 w_1254 ⟨(Nat.le_of_ble_eq_true rfl), (Nat.le_of_ble_eq_true rfl)⟩ rfl (Nat.le_of_ble_eq_true rfl) ⟨(Nat.le_of_ble_eq_true rfl), (Nat.le_of_ble_eq_true rfl)⟩ rfl dX11_word_9) h (fun r92 f93 H locs p94 h => ?_)
                          obtain ⟨er92, rfl⟩ := p94
                          obtain rfl : (4 : Int32) = r92 := by rw [er92]; decide
                          refine lv_icmp_ge (tgt := 55) hx hb dX11_word_12 (by decide) (fun c95 => ?_) (fun c95 => ?_)
                          · refine lv_aload_n hx hb dX11_word_55 rfl (lv_at hl 2 rfl) ?_
                            refine t_getfd C h tf3 hu0 (by decide) wf_60 (v := .int aa1_f3) kpu0_3f3 fl_X11_90 dX11_word_56 ?_
                            refine lv_aload_n hx hb dX11_word_59 rfl (lv_at hl 3 rfl) ?_
                            have hrv := vk_recv hE0.2.2.2.2.2.2.2.2.2.1 (i := 8) (by decide) h.2.2.1
                            refine k_i (r_VK C h hl (As := []) (rest := [.int aa1_f3]) (c_length l D G b0 f3 8 (by decide)) hrv mk_J0_length_8abf5 w_1574 w_1252 w_1253 w_1254 ⟨(Nat.le_of_ble_eq_true rfl), (Nat.le_of_ble_eq_true rfl)⟩ rfl (Nat.le_of_ble_eq_true rfl) ⟨(Nat.le_of_ble_eq_true rfl), (Nat.le_of_ble_eq_true rfl)⟩ rfl dX11_word_60) h (fun r98 f99 H locs p100 h => ?_)
                            obtain ⟨er98, rfl⟩ := p100
                            obtain rfl : (4 : Int32) = r98 := by rw [er98]; decide
                            refine i_addk hx hb dX11_word_63 ipu0_3f3 (k := 4) rfl (lo := 4) (hi := 204) (by decide) (fun z101 ez101 mz101 iz101 => ?_)
                            refine lv_istore_n (lv' := [(3, .int z101), (2, .int r2), (0, .ref u0), (1, .ref (G (20 + 8)))]) hx hb dX11_word_64 rfl hl (by decide) rfl (fun ls hl => ?_)
                            refine lv_iload_n hx hb dX11_word_65 rfl (lv_at hl 0 rfl) ?_
                            refine lv_aload_n hx hb dX11_word_66 rfl (lv_at hl 2 rfl) ?_
                            refine t_getfd C h tf3 hu0 (by decide) wf_60 (v := .int ln) k5 fl_X11_79 dX11_word_67 ?_
                            refine lv_icmp_ge (tgt := 97) hx hb dX11_word_70 (by decide) (fun c102 => ?_) (fun c102 => ?_)
                            · have c103 : ln.toInt ≤ z101.toInt := Int32.le_iff_toInt_le.mp c102
                              refine lv_aload_n hx hb dX11_word_97 rfl (lv_at hl 2 rfl) ?_
                              refine lv_iload_n hx hb dX11_word_98 rfl (lv_at hl 0 rfl) ?_
                              refine t_put C h tf3 of3 hu0 (by decide) (by decide) (by decide) wf_60 fw_60 (k := 3) rfl flw_X11_90 (Or.inr ⟨_, _, _, rfl, rfl⟩) (v := .int z101) rfl rfl ⟨_, rfl, (show iv z101 0 200 from by omega)⟩ dX11_word_99 (fun f107 H locs h tf107 of107 hq ha_ hn_ hk_ => ?_)
                              have k108 := hk_ 2 _ (by decide) k5
                              have k109 := hk_ 1 _ (by decide) k6
                              have k110 := atp.tg k7 hq htq (by decide)
                              have k112 := ha_
                              refine lv_iconst (v := 1) hx hb dX11_word_102 (by decide) ?_
                              exact u_zret C h hr hQ ⟨by decide, by decide⟩ (⟨⟨by decide, by decide⟩, tf107, of107, (fun _ => (by omega)), (fun h_ => absurd h_ (by decide)), ⟨z101, k112, (show iv z101 0 200 from by omega), (by have n1_ : (1 : Int32).toInt = 1 := rfl; have n0_ : (0 : Int32).toInt = 0 := rfl; omega)⟩⟩) (Nat.le_of_ble_eq_true rfl) (Nat.le_of_ble_eq_true rfl) dX11_word_103
                            · have c104 : z101.toInt < ln.toInt := Int32.lt_iff_toInt_lt.mp (iv_nle c102)
                              have i105 : iv z101 4 199 := iv_Ll c104 iz101 i82 (by decide)
                              have i106 : iv ln 5 200 := iv_Lr c104 iz101 i82 (by decide)
                              refine lv_aload_n hx hb dX11_word_73 rfl (lv_at hl 2 rfl) ?_
                              refine t_getfd C h tf3 hu0 (by decide) wf_60 (v := .ref tq) k6 fl_X11_9 dX11_word_74 ?_
                              refine lv_iload_n hx hb dX11_word_77 rfl (lv_at hl 0 rfl) ?_
                              refine e_bald C h tf3 htq (by decide) wf_61 k7 (iv_in i105 (by decide)) dX11_word_78 (fun z113 ez113 iz113 => ?_)
                              have mz113 := congrArg Int32.toInt ez113
                              have hz113 := hB ((rn 32 32 B ln.toInt.toNat aa.toInt.toNat) + 4) (by omega)
                              have sz113 := sg_c hz113.2
                              have qz113 : z113.toInt = sg (B ((rn 32 32 B ln.toInt.toNat aa.toInt.toNat) + 4)) := by rw [mz113, ← hz113.1]; exact congrArg (fun z_ => (rt z_).toInt) (by omega)
                              refine lv_bipush (v := 97) hx hb dX11_word_79 (by decide) ?_
                              refine lv_icmp_lt (tgt := 97) hx hb dX11_word_81 (by decide) (fun c114 => ?_) (fun c114 => ?_)
                              · have c115 : z113.toInt < 97 := Int32.lt_iff_toInt_lt.mp c114
                                have i116 : iv z113 (-128) 96 := iv_Ll c115 iz113 (iv_k (x := 97) (k := 97) rfl) (by decide)
                                refine lv_aload_n hx hb dX11_word_97 rfl (lv_at hl 2 rfl) ?_
                                refine lv_iload_n hx hb dX11_word_98 rfl (lv_at hl 0 rfl) ?_
                                refine t_put C h tf3 of3 hu0 (by decide) (by decide) (by decide) wf_60 fw_60 (k := 3) rfl flw_X11_90 (Or.inr ⟨_, _, _, rfl, rfl⟩) (v := .int z101) rfl rfl ⟨_, rfl, (iv_w i105 (by decide))⟩ dX11_word_99 (fun f119 H locs h tf119 of119 hq ha_ hn_ hk_ => ?_)
                                have k120 := hk_ 2 _ (by decide) k5
                                have k121 := hk_ 1 _ (by decide) k6
                                have k122 := atp.tg k7 hq htq (by decide)
                                have k124 := ha_
                                refine lv_iconst (v := 1) hx hb dX11_word_102 (by decide) ?_
                                exact u_zret C h hr hQ ⟨by decide, by decide⟩ (⟨⟨by decide, by decide⟩, tf119, of119, (fun _ => (by omega)), (fun h_ => absurd h_ (by decide)), ⟨z101, k124, (iv_w i105 (by decide)), (by have n1_ : (1 : Int32).toInt = 1 := rfl; have n0_ : (0 : Int32).toInt = 0 := rfl; omega)⟩⟩) (Nat.le_of_ble_eq_true rfl) (Nat.le_of_ble_eq_true rfl) dX11_word_103
                              · have c117 : 97 ≤ z113.toInt := Int32.le_iff_toInt_le.mp (iv_nlt c114)
                                have i118 : iv z113 97 127 := iv_Er c117 (iv_k (x := 97) (k := 97) rfl) iz113 (by decide)
                                refine lv_aload_n hx hb dX11_word_84 rfl (lv_at hl 2 rfl) ?_
                                refine t_getfd C h tf3 hu0 (by decide) wf_60 (v := .ref tq) k6 fl_X11_9 dX11_word_85 ?_
                                refine lv_iload_n hx hb dX11_word_88 rfl (lv_at hl 0 rfl) ?_
                                refine e_bald C h tf3 htq (by decide) wf_61 k7 (iv_in i105 (by decide)) dX11_word_89 (fun z125 ez125 iz125 => ?_)
                                have mz125 := congrArg Int32.toInt ez125
                                have hz125 := hB ((rn 32 32 B ln.toInt.toNat aa.toInt.toNat) + 4) (by omega)
                                have sz125 := sg_c hz125.2
                                have qz125 : z125.toInt = sg (B ((rn 32 32 B ln.toInt.toNat aa.toInt.toNat) + 4)) := by rw [mz125, ← hz125.1]; exact congrArg (fun z_ => (rt z_).toInt) (by omega)
                                refine lv_bipush (v := 122) hx hb dX11_word_90 (by decide) ?_
                                refine lv_icmp_gt (tgt := 97) hx hb dX11_word_92 (by decide) (fun c126 => ?_) (fun c126 => ?_)
                                · have c127 : 122 < z125.toInt := Int32.lt_iff_toInt_lt.mp c126
                                  have i128 : iv z125 123 127 := iv_Lr c127 (iv_k (x := 122) (k := 122) rfl) iz125 (by decide)
                                  refine lv_aload_n hx hb dX11_word_97 rfl (lv_at hl 2 rfl) ?_
                                  refine lv_iload_n hx hb dX11_word_98 rfl (lv_at hl 0 rfl) ?_
                                  refine t_put C h tf3 of3 hu0 (by decide) (by decide) (by decide) wf_60 fw_60 (k := 3) rfl flw_X11_90 (Or.inr ⟨_, _, _, rfl, rfl⟩) (v := .int z101) rfl rfl ⟨_, rfl, (iv_w i105 (by decide))⟩ dX11_word_99 (fun f131 H locs h tf131 of131 hq ha_ hn_ hk_ => ?_)
                                  have k132 := hk_ 2 _ (by decide) k5
                                  have k133 := hk_ 1 _ (by decide) k6
                                  have k134 := atp.tg k7 hq htq (by decide)
                                  have k136 := ha_
                                  refine lv_iconst (v := 1) hx hb dX11_word_102 (by decide) ?_
                                  exact u_zret C h hr hQ ⟨by decide, by decide⟩ (⟨⟨by decide, by decide⟩, tf131, of131, (fun _ => (by omega)), (fun h_ => absurd h_ (by decide)), ⟨z101, k136, (iv_w i105 (by decide)), (by have n1_ : (1 : Int32).toInt = 1 := rfl; have n0_ : (0 : Int32).toInt = 0 := rfl; omega)⟩⟩) (Nat.le_of_ble_eq_true rfl) (Nat.le_of_ble_eq_true rfl) dX11_word_103
                                · have c129 : z125.toInt ≤ 122 := Int32.le_iff_toInt_le.mp (iv_nlt c126)
                                  have i130 : iv z125 (-128) 122 := iv_El c129 iz125 (iv_k (x := 122) (k := 122) rfl) (by decide)
                                  refine lv_iconst (v := 0) hx hb dX11_word_95 (by decide) ?_
                                  exact u_zret C h hr hQ ⟨by decide, by decide⟩ (⟨⟨by decide, by decide⟩, tf3, of3, (fun h_ => absurd h_ (by decide)), (fun _ => (by omega)), ⟨aa1_f3, kpu0_3f3, ipu0_3f3, (by have n1_ : (1 : Int32).toInt = 1 := rfl; have n0_ : (0 : Int32).toInt = 0 := rfl; omega)⟩⟩) (Nat.le_of_ble_eq_true rfl) (Nat.le_of_ble_eq_true rfl) dX11_word_96
                          · exact absurd c95 (by decide)
                        · have c91 : z84.toInt ≠ 109 := fun z_ => c88 (Int32.toInt_inj.mp z_)
                          refine lv_iconst (v := 0) hx hb dX11_word_47 (by decide) ?_
                          exact u_zret C h hr hQ ⟨by decide, by decide⟩ (⟨⟨by decide, by decide⟩, tf3, of3, (fun h_ => absurd h_ (by decide)), (fun _ => (by omega)), ⟨aa1_f3, kpu0_3f3, ipu0_3f3, (by have n1_ : (1 : Int32).toInt = 1 := rfl; have n0_ : (0 : Int32).toInt = 0 := rfl; omega)⟩⟩) (Nat.le_of_ble_eq_true rfl) (Nat.le_of_ble_eq_true rfl) dX11_word_48
                  · have c70 : z63.toInt ≠ 111 := fun z_ => c67 (Int32.toInt_inj.mp z_)
                    refine lv_iconst (v := 0) hx hb dX11_word_47 (by decide) ?_
                    exact u_zret C h hr hQ ⟨by decide, by decide⟩ (⟨⟨by decide, by decide⟩, tf3, of3, (fun h_ => absurd h_ (by decide)), (fun _ => (by omega)), ⟨aa1_f3, kpu0_3f3, ipu0_3f3, (by have n1_ : (1 : Int32).toInt = 1 := rfl; have n0_ : (0 : Int32).toInt = 0 := rfl; omega)⟩⟩) (Nat.le_of_ble_eq_true rfl) (Nat.le_of_ble_eq_true rfl) dX11_word_48
            · have c49 : z42.toInt ≠ 114 := fun z_ => c46 (Int32.toInt_inj.mp z_)
              refine lv_iconst (v := 0) hx hb dX11_word_47 (by decide) ?_
              exact u_zret C h hr hQ ⟨by decide, by decide⟩ (⟨⟨by decide, by decide⟩, tf3, of3, (fun h_ => absurd h_ (by decide)), (fun _ => (by omega)), ⟨aa1_f3, kpu0_3f3, ipu0_3f3, (by have n1_ : (1 : Int32).toInt = 1 := rfl; have n0_ : (0 : Int32).toInt = 0 := rfl; omega)⟩⟩) (Nat.le_of_ble_eq_true rfl) (Nat.le_of_ble_eq_true rfl) dX11_word_48
      · have c28 : z21.toInt ≠ 102 := fun z_ => c25 (Int32.toInt_inj.mp z_)
        refine lv_iconst (v := 0) hx hb dX11_word_47 (by decide) ?_
        exact u_zret C h hr hQ ⟨by decide, by decide⟩ (⟨⟨by decide, by decide⟩, tf3, of3, (fun h_ => absurd h_ (by decide)), (fun _ => (by omega)), ⟨aa1_f3, kpu0_3f3, ipu0_3f3, (by have n1_ : (1 : Int32).toInt = 1 := rfl; have n0_ : (0 : Int32).toInt = 0 := rfl; omega)⟩⟩) (Nat.le_of_ble_eq_true rfl) (Nat.le_of_ble_eq_true rfl) dX11_word_48
abbrev rm_s_X11_stepHereX : Room := { frames := 5, cells := 0, slots := 0, locals := 108 }
set_option maxRecDepth 100000 in
set_option maxHeartbeats 4000000 in
theorem s_X11_stepHereX (l : Launch) (D : va_G) (G : Nat → Nat) (b0 : Nat) (τ : Nat → Nat) (f : hM) (t : TI G 9 τ f) (u0 : Nat) (hu0 : τ u0 = 60) (ln : Int32) (hln : iv ln 0 200) (k_u0_2 : atp f u0 (fd 2 (.int ln))) (aa : Int32) (haa : iv aa 0 200) (k_u0_3 : atp f u0 (fd 3 (.int aa))) (tq : Nat) (htq : τ tq = 61) (k_u0_1 : atp f u0 (fd 1 (.ref tq))) (rt : Nat → Int32) (hRtq : atp f tq (eqc (.inl (G 0, 200, .inl rt)))) (B : Nat → Int) (hB : ∀ k : Nat, (k : Int) < ln.toInt → (rt k).toInt = sg (B k) ∧ 0 ≤ B k ∧ B k ≤ 255)  : mI l yX11_stepHere cX11_stepHere 1 (.int) rm_s_X11_stepHereX D G b0 f [.ref u0] (fun r f1 => iv r (-1) 7 ∧ TI G 9 τ f1 ∧ Fr [60, 60004] τ f f1 ∧ (r.toInt = if (rn 32 32 B ln.toInt.toNat aa.toInt.toNat) < ln.toInt.toNat ∧ (97 ≤ B (rn 32 32 B ln.toInt.toNat aa.toInt.toNat) ∧ B (rn 32 32 B ln.toInt.toNat aa.toInt.toNat) ≤ 122) then stp B (rn 32 32 B ln.toInt.toNat aa.toInt.toNat) (te B ln.toInt.toNat (rn 32 32 B ln.toInt.toNat aa.toInt.toNat)) else -1) ∧ (∃ aa1 : Int32, atp f1 u0 (fd 3 (.int aa1)) ∧ iv aa1 0 200 ∧ (r.toInt ≠ -1 → aa1.toInt = (((te B ln.toInt.toNat (rn 32 32 B ln.toInt.toNat aa.toInt.toNat)) : Nat) : Int)) ∧ (r.toInt = -1 → aa1.toInt = (((rn 32 32 B ln.toInt.toNat aa.toInt.toNat) : Nat) : Int)))) := by
  refine met2 (own := RX11) (by decide) rfl (Nat.le_of_ble_eq_true rfl) ?_
  intro p e s m args below meth c ls Q hQ C hr hini hl h
  have hl : lv_has ls 1 [(0, .ref u0)] := hl
  obtain ⟨hx, hb, hml, hown, hts, hE0, hlk⟩ := id C
  have o := Fr.rf [60, 60004] τ f
  refine lv_aload_n hx hb dX11_stepHere_0 rfl (lv_at hl 0 rfl) ?_
  refine va_ldcS hx hb hown (hE0.2.2.2.2.2.2.2.2.1 ("QuarterWalksModel", 114, "n", 0) (by decide)) dX11_stepHere_1 ?_
  obtain ⟨_, r1⟩ := t_rec t hu0 (by decide) wf_60
  refine k_i (r_V C h hl (As := [.ref (G (20 + 0))]) (rest := []) (s_X11_wordX0 l D G b0 τ f t u0 hu0 ln hln k_u0_2 aa haa k_u0_3 tq htq k_u0_1 rt hRtq B hB) r1 (Cn := RX11) (T := TX11) (N := 32) rfl rfl mk_X11_word w_1570 w_1572 w_43 w_1573 ⟨Nat.le_of_ble_eq_true rfl, Nat.le_of_ble_eq_true rfl⟩ rfl (Nat.le_of_ble_eq_true rfl) ⟨Nat.le_of_ble_eq_true rfl, Nat.le_of_ble_eq_true rfl⟩ rfl dX11_stepHere_3) h (fun r2 f3 H locs p4 h => ?_)
  obtain ⟨ir2, tf3, ogf3, cnr2, czr2, ⟨aa1_f3, kpu0_3f3, ipu0_3f3, rpu0_3f3⟩⟩ := p4
  have of3 : Fr [60, 60004] τ f f3 := Fr.tr o ogf3 (by decide) (by decide)
  have k5 := atp.fk k_u0_2 ogf3 hu0 (by decide) (by decide)
  have k6 := atp.fk k_u0_1 ogf3 hu0 (by decide) (by decide)
  have k7 := atp.fr hRtq ogf3 htq (by decide)
  refine lv_if_eq (tgt := 11) hx hb dX11_stepHere_6 (by decide) (fun c8 => ?_) (fun c8 => ?_)
  · have c9 : r2.toInt = 0 := congrArg Int32.toInt c8
    have i10 : iv r2 0 0 := iv_Q c9 ir2 (iv_k (x := 0) (k := 0) rfl) (by decide)
    have i11 := czr2 c9
    refine lv_aload_n hx hb dX11_stepHere_11 rfl (lv_at hl 0 rfl) ?_
    refine va_ldcS hx hb hown (hE0.2.2.2.2.2.2.2.2.1 ("QuarterWalksModel", 120, "ne", 1) (by decide)) dX11_stepHere_12 ?_
    obtain ⟨_, r15⟩ := t_rec tf3 hu0 (by decide) wf_60
    refine k_i (r_V C h hl (As := [.ref (G (20 + 1))]) (rest := []) (s_X11_wordX1 l D G b0 τ f3 tf3 u0 hu0 ln hln k5 aa1_f3 ipu0_3f3 kpu0_3f3 tq htq k6 rt k7 B hB) r15 (Cn := RX11) (T := TX11) (N := 32) rfl rfl mk_X11_word w_1570 w_1572 w_43 w_1573 ⟨Nat.le_of_ble_eq_true rfl, Nat.le_of_ble_eq_true rfl⟩ rfl (Nat.le_of_ble_eq_true rfl) ⟨Nat.le_of_ble_eq_true rfl, Nat.le_of_ble_eq_true rfl⟩ rfl dX11_stepHere_14) h (fun r16 f17 H locs p18 h => ?_)
    obtain ⟨ir16, tf17, ogf17, cnr16, czr16, ⟨aa1_f17, kpu0_3f17, ipu0_3f17, rpu0_3f17⟩⟩ := p18
    have of17 : Fr [60, 60004] τ f f17 := Fr.tr of3 ogf17 (by decide) (by decide)
    have k19 := atp.fk k5 ogf17 hu0 (by decide) (by decide)
    have k20 := atp.fk k6 ogf17 hu0 (by decide) (by decide)
    have k21 := atp.fr k7 ogf17 htq (by decide)
    have eKr16 : rn 32 32 B ln.toInt.toNat aa1_f3.toInt.toNat = (rn 32 32 B ln.toInt.toNat aa.toInt.toNat) := by rw [show aa1_f3.toInt.toNat = (rn 32 32 B ln.toInt.toNat aa.toInt.toNat) by omega]; exact rn_rn _
    rw [eKr16] at cnr16 czr16 rpu0_3f17
    refine lv_if_eq (tgt := 22) hx hb dX11_stepHere_17 (by decide) (fun c22 => ?_) (fun c22 => ?_)
    · have c23 : r16.toInt = 0 := congrArg Int32.toInt c22
      have i24 : iv r16 0 0 := iv_Q c23 ir16 (iv_k (x := 0) (k := 0) rfl) (by decide)
      have i25 := czr16 c23
      refine lv_aload_n hx hb dX11_stepHere_22 rfl (lv_at hl 0 rfl) ?_
      refine va_ldcS hx hb hown (hE0.2.2.2.2.2.2.2.2.1 ("QuarterWalksModel", 122, "e", 2) (by decide)) dX11_stepHere_23 ?_
      obtain ⟨_, r29⟩ := t_rec tf17 hu0 (by decide) wf_60
      refine k_i (r_V C h hl (As := [.ref (G (20 + 2))]) (rest := []) (s_X11_wordX2 l D G b0 τ f17 tf17 u0 hu0 ln hln k19 aa1_f17 ipu0_3f17 kpu0_3f17 tq htq k20 rt k21 B hB) r29 (Cn := RX11) (T := TX11) (N := 32) rfl rfl mk_X11_word w_1570 w_1572 w_43 w_1573 ⟨Nat.le_of_ble_eq_true rfl, Nat.le_of_ble_eq_true rfl⟩ rfl (Nat.le_of_ble_eq_true rfl) ⟨Nat.le_of_ble_eq_true rfl, Nat.le_of_ble_eq_true rfl⟩ rfl dX11_stepHere_25) h (fun r30 f31 H locs p32 h => ?_)
      obtain ⟨ir30, tf31, ogf31, cnr30, czr30, ⟨aa1_f31, kpu0_3f31, ipu0_3f31, rpu0_3f31⟩⟩ := p32
      have of31 : Fr [60, 60004] τ f f31 := Fr.tr of17 ogf31 (by decide) (by decide)
      have k33 := atp.fk k19 ogf31 hu0 (by decide) (by decide)
      have k34 := atp.fk k20 ogf31 hu0 (by decide) (by decide)
      have k35 := atp.fr k21 ogf31 htq (by decide)
      have eKr30 : rn 32 32 B ln.toInt.toNat aa1_f17.toInt.toNat = (rn 32 32 B ln.toInt.toNat aa.toInt.toNat) := by rw [show aa1_f17.toInt.toNat = (rn 32 32 B ln.toInt.toNat aa.toInt.toNat) by omega]; exact rn_rn _
      rw [eKr30] at cnr30 czr30 rpu0_3f31
      refine lv_if_eq (tgt := 33) hx hb dX11_stepHere_28 (by decide) (fun c36 => ?_) (fun c36 => ?_)
      · have c37 : r30.toInt = 0 := congrArg Int32.toInt c36
        have i38 : iv r30 0 0 := iv_Q c37 ir30 (iv_k (x := 0) (k := 0) rfl) (by decide)
        have i39 := czr30 c37
        refine lv_aload_n hx hb dX11_stepHere_33 rfl (lv_at hl 0 rfl) ?_
        refine va_ldcS hx hb hown (hE0.2.2.2.2.2.2.2.2.1 ("QuarterWalksModel", 124, "se", 3) (by decide)) dX11_stepHere_34 ?_
        obtain ⟨_, r43⟩ := t_rec tf31 hu0 (by decide) wf_60
        refine k_i (r_V C h hl (As := [.ref (G (20 + 3))]) (rest := []) (s_X11_wordX3 l D G b0 τ f31 tf31 u0 hu0 ln hln k33 aa1_f31 ipu0_3f31 kpu0_3f31 tq htq k34 rt k35 B hB) r43 (Cn := RX11) (T := TX11) (N := 32) rfl rfl mk_X11_word w_1570 w_1572 w_43 w_1573 ⟨Nat.le_of_ble_eq_true rfl, Nat.le_of_ble_eq_true rfl⟩ rfl (Nat.le_of_ble_eq_true rfl) ⟨Nat.le_of_ble_eq_true rfl, Nat.le_of_ble_eq_true rfl⟩ rfl dX11_stepHere_36) h (fun r44 f45 H locs p46 h => ?_)
        obtain ⟨ir44, tf45, ogf45, cnr44, czr44, ⟨aa1_f45, kpu0_3f45, ipu0_3f45, rpu0_3f45⟩⟩ := p46
        have of45 : Fr [60, 60004] τ f f45 := Fr.tr of31 ogf45 (by decide) (by decide)
        have k47 := atp.fk k33 ogf45 hu0 (by decide) (by decide)
        have k48 := atp.fk k34 ogf45 hu0 (by decide) (by decide)
        have k49 := atp.fr k35 ogf45 htq (by decide)
        have eKr44 : rn 32 32 B ln.toInt.toNat aa1_f31.toInt.toNat = (rn 32 32 B ln.toInt.toNat aa.toInt.toNat) := by rw [show aa1_f31.toInt.toNat = (rn 32 32 B ln.toInt.toNat aa.toInt.toNat) by omega]; exact rn_rn _
        rw [eKr44] at cnr44 czr44 rpu0_3f45
        refine lv_if_eq (tgt := 44) hx hb dX11_stepHere_39 (by decide) (fun c50 => ?_) (fun c50 => ?_)
        · have c51 : r44.toInt = 0 := congrArg Int32.toInt c50
          have i52 : iv r44 0 0 := iv_Q c51 ir44 (iv_k (x := 0) (k := 0) rfl) (by decide)
          have i53 := czr44 c51
          refine lv_aload_n hx hb dX11_stepHere_44 rfl (lv_at hl 0 rfl) ?_
          refine va_ldcS hx hb hown (hE0.2.2.2.2.2.2.2.2.1 ("QuarterWalksModel", 126, "s", 4) (by decide)) dX11_stepHere_45 ?_
          obtain ⟨_, r57⟩ := t_rec tf45 hu0 (by decide) wf_60
          refine k_i (r_V C h hl (As := [.ref (G (20 + 4))]) (rest := []) (s_X11_wordX4 l D G b0 τ f45 tf45 u0 hu0 ln hln k47 aa1_f45 ipu0_3f45 kpu0_3f45 tq htq k48 rt k49 B hB) r57 (Cn := RX11) (T := TX11) (N := 32) rfl rfl mk_X11_word w_1570 w_1572 w_43 w_1573 ⟨Nat.le_of_ble_eq_true rfl, Nat.le_of_ble_eq_true rfl⟩ rfl (Nat.le_of_ble_eq_true rfl) ⟨Nat.le_of_ble_eq_true rfl, Nat.le_of_ble_eq_true rfl⟩ rfl dX11_stepHere_47) h (fun r58 f59 H locs p60 h => ?_)
          obtain ⟨ir58, tf59, ogf59, cnr58, czr58, ⟨aa1_f59, kpu0_3f59, ipu0_3f59, rpu0_3f59⟩⟩ := p60
          have of59 : Fr [60, 60004] τ f f59 := Fr.tr of45 ogf59 (by decide) (by decide)
          have k61 := atp.fk k47 ogf59 hu0 (by decide) (by decide)
          have k62 := atp.fk k48 ogf59 hu0 (by decide) (by decide)
          have k63 := atp.fr k49 ogf59 htq (by decide)
          have eKr58 : rn 32 32 B ln.toInt.toNat aa1_f45.toInt.toNat = (rn 32 32 B ln.toInt.toNat aa.toInt.toNat) := by rw [show aa1_f45.toInt.toNat = (rn 32 32 B ln.toInt.toNat aa.toInt.toNat) by omega]; exact rn_rn _
          rw [eKr58] at cnr58 czr58 rpu0_3f59
          refine lv_if_eq (tgt := 55) hx hb dX11_stepHere_50 (by decide) (fun c64 => ?_) (fun c64 => ?_)
          · have c65 : r58.toInt = 0 := congrArg Int32.toInt c64
            have i66 : iv r58 0 0 := iv_Q c65 ir58 (iv_k (x := 0) (k := 0) rfl) (by decide)
            have i67 := czr58 c65
            refine lv_aload_n hx hb dX11_stepHere_55 rfl (lv_at hl 0 rfl) ?_
            refine va_ldcS hx hb hown (hE0.2.2.2.2.2.2.2.2.1 ("QuarterWalksModel", 128, "sw", 5) (by decide)) dX11_stepHere_56 ?_
            obtain ⟨_, r71⟩ := t_rec tf59 hu0 (by decide) wf_60
            refine k_i (r_V C h hl (As := [.ref (G (20 + 5))]) (rest := []) (s_X11_wordX5 l D G b0 τ f59 tf59 u0 hu0 ln hln k61 aa1_f59 ipu0_3f59 kpu0_3f59 tq htq k62 rt k63 B hB) r71 (Cn := RX11) (T := TX11) (N := 32) rfl rfl mk_X11_word w_1570 w_1572 w_43 w_1573 ⟨Nat.le_of_ble_eq_true rfl, Nat.le_of_ble_eq_true rfl⟩ rfl (Nat.le_of_ble_eq_true rfl) ⟨Nat.le_of_ble_eq_true rfl, Nat.le_of_ble_eq_true rfl⟩ rfl dX11_stepHere_58) h (fun r72 f73 H locs p74 h => ?_)
            obtain ⟨ir72, tf73, ogf73, cnr72, czr72, ⟨aa1_f73, kpu0_3f73, ipu0_3f73, rpu0_3f73⟩⟩ := p74
            have of73 : Fr [60, 60004] τ f f73 := Fr.tr of59 ogf73 (by decide) (by decide)
            have k75 := atp.fk k61 ogf73 hu0 (by decide) (by decide)
            have k76 := atp.fk k62 ogf73 hu0 (by decide) (by decide)
            have k77 := atp.fr k63 ogf73 htq (by decide)
            have eKr72 : rn 32 32 B ln.toInt.toNat aa1_f59.toInt.toNat = (rn 32 32 B ln.toInt.toNat aa.toInt.toNat) := by rw [show aa1_f59.toInt.toNat = (rn 32 32 B ln.toInt.toNat aa.toInt.toNat) by omega]; exact rn_rn _
            rw [eKr72] at cnr72 czr72 rpu0_3f73
            refine lv_if_eq (tgt := 66) hx hb dX11_stepHere_61 (by decide) (fun c78 => ?_) (fun c78 => ?_)
            · have c79 : r72.toInt = 0 := congrArg Int32.toInt c78
              have i80 : iv r72 0 0 := iv_Q c79 ir72 (iv_k (x := 0) (k := 0) rfl) (by decide)
              have i81 := czr72 c79
              refine lv_aload_n hx hb dX11_stepHere_66 rfl (lv_at hl 0 rfl) ?_
              refine va_ldcS hx hb hown (hE0.2.2.2.2.2.2.2.2.1 ("QuarterWalksModel", 130, "w", 6) (by decide)) dX11_stepHere_67 ?_
              obtain ⟨_, r85⟩ := t_rec tf73 hu0 (by decide) wf_60
              refine k_i (r_V C h hl (As := [.ref (G (20 + 6))]) (rest := []) (s_X11_wordX6 l D G b0 τ f73 tf73 u0 hu0 ln hln k75 aa1_f73 ipu0_3f73 kpu0_3f73 tq htq k76 rt k77 B hB) r85 (Cn := RX11) (T := TX11) (N := 32) rfl rfl mk_X11_word w_1570 w_1572 w_43 w_1573 ⟨Nat.le_of_ble_eq_true rfl, Nat.le_of_ble_eq_true rfl⟩ rfl (Nat.le_of_ble_eq_true rfl) ⟨Nat.le_of_ble_eq_true rfl, Nat.le_of_ble_eq_true rfl⟩ rfl dX11_stepHere_69) h (fun r86 f87 H locs p88 h => ?_)
              obtain ⟨ir86, tf87, ogf87, cnr86, czr86, ⟨aa1_f87, kpu0_3f87, ipu0_3f87, rpu0_3f87⟩⟩ := p88
              have of87 : Fr [60, 60004] τ f f87 := Fr.tr of73 ogf87 (by decide) (by decide)
              have k89 := atp.fk k75 ogf87 hu0 (by decide) (by decide)
              have k90 := atp.fk k76 ogf87 hu0 (by decide) (by decide)
              have k91 := atp.fr k77 ogf87 htq (by decide)
              have eKr86 : rn 32 32 B ln.toInt.toNat aa1_f73.toInt.toNat = (rn 32 32 B ln.toInt.toNat aa.toInt.toNat) := by rw [show aa1_f73.toInt.toNat = (rn 32 32 B ln.toInt.toNat aa.toInt.toNat) by omega]; exact rn_rn _
              rw [eKr86] at cnr86 czr86 rpu0_3f87
              refine lv_if_eq (tgt := 78) hx hb dX11_stepHere_72 (by decide) (fun c92 => ?_) (fun c92 => ?_)
              · have c93 : r86.toInt = 0 := congrArg Int32.toInt c92
                have i94 : iv r86 0 0 := iv_Q c93 ir86 (iv_k (x := 0) (k := 0) rfl) (by decide)
                have i95 := czr86 c93
                refine lv_aload_n hx hb dX11_stepHere_78 rfl (lv_at hl 0 rfl) ?_
                refine va_ldcS hx hb hown (hE0.2.2.2.2.2.2.2.2.1 ("QuarterWalksModel", 132, "nw", 7) (by decide)) dX11_stepHere_79 ?_
                obtain ⟨_, r99⟩ := t_rec tf87 hu0 (by decide) wf_60
                refine k_i (r_V C h hl (As := [.ref (G (20 + 7))]) (rest := []) (s_X11_wordX7 l D G b0 τ f87 tf87 u0 hu0 ln hln k89 aa1_f87 ipu0_3f87 kpu0_3f87 tq htq k90 rt k91 B hB) r99 (Cn := RX11) (T := TX11) (N := 32) rfl rfl mk_X11_word w_1570 w_1572 w_43 w_1573 ⟨Nat.le_of_ble_eq_true rfl, Nat.le_of_ble_eq_true rfl⟩ rfl (Nat.le_of_ble_eq_true rfl) ⟨Nat.le_of_ble_eq_true rfl, Nat.le_of_ble_eq_true rfl⟩ rfl dX11_stepHere_81) h (fun r100 f101 H locs p102 h => ?_)
                obtain ⟨ir100, tf101, ogf101, cnr100, czr100, ⟨aa1_f101, kpu0_3f101, ipu0_3f101, rpu0_3f101⟩⟩ := p102
                have of101 : Fr [60, 60004] τ f f101 := Fr.tr of87 ogf101 (by decide) (by decide)
                have k103 := atp.fk k89 ogf101 hu0 (by decide) (by decide)
                have k104 := atp.fk k90 ogf101 hu0 (by decide) (by decide)
                have k105 := atp.fr k91 ogf101 htq (by decide)
                have eKr100 : rn 32 32 B ln.toInt.toNat aa1_f87.toInt.toNat = (rn 32 32 B ln.toInt.toNat aa.toInt.toNat) := by rw [show aa1_f87.toInt.toNat = (rn 32 32 B ln.toInt.toNat aa.toInt.toNat) by omega]; exact rn_rn _
                rw [eKr100] at cnr100 czr100 rpu0_3f101
                refine lv_if_eq (tgt := 92) hx hb dX11_stepHere_84 (by decide) (fun c106 => ?_) (fun c106 => ?_)
                · have c107 : r100.toInt = 0 := congrArg Int32.toInt c106
                  have i108 : iv r100 0 0 := iv_Q c107 ir100 (iv_k (x := 0) (k := 0) rfl) (by decide)
                  have i109 := czr100 c107
                  refine lv_iconst (v := -1) hx hb dX11_stepHere_92 (by decide) ?_
                  exact u_iret C h hr hQ (⟨⟨by decide, by decide⟩, tf101, of101, (by
                      have n_ : (-1 : Int32).toInt = -1 := rfl
                      by_cases q_ : (rn 32 32 B ln.toInt.toNat aa.toInt.toNat) < ln.toInt.toNat ∧ (97 ≤ B (rn 32 32 B ln.toInt.toNat aa.toInt.toNat) ∧ B (rn 32 32 B ln.toInt.toNat aa.toInt.toNat) ≤ 122)
                      · rw [if_pos q_, sh_0 q_.1 q_.2 (by omega) (by omega)]; exact n_
                      · rw [if_neg q_]; exact n_), ⟨aa1_f101, kpu0_3f101, ipu0_3f101, (by
                      have n_ : (-1 : Int32).toInt = -1 := rfl
                      omega)⟩⟩) (Nat.le_of_ble_eq_true rfl) (Nat.le_of_ble_eq_true rfl) dX11_stepHere_93
                · have c110 : r100.toInt ≠ 0 := fun z_ => c106 (Int32.toInt_inj.mp z_)
                  have i111 : iv r100 1 1 := iv_Nl c110 ir100 (by decide)
                  have i112 := cnr100 c110
                  refine lv_bipush (v := 7) hx hb dX11_stepHere_87 (by decide) ?_
                  refine lv_goto (tgt := 93) hx hb dX11_stepHere_89 (by decide) ?_
                  exact u_iret C h hr hQ (⟨⟨by decide, by decide⟩, tf101, of101, (by
                      have n_ : (7 : Int32).toInt = 7 := rfl
                      have h_ := sh_2 (B := B) (L := ln.toInt.toNat) (i := (rn 32 32 B ln.toInt.toNat aa.toInt.toNat)) (c := 110) (d := 119) (t := 7) (by decide) (by decide) (by omega) (by omega) (by omega) (by omega) rfl
                      rw [if_pos (by omega), h_.2]; exact n_), ⟨aa1_f101, kpu0_3f101, ipu0_3f101, (by
                      have n_ : (7 : Int32).toInt = 7 := rfl
                      have h_ := sh_2 (B := B) (L := ln.toInt.toNat) (i := (rn 32 32 B ln.toInt.toNat aa.toInt.toNat)) (c := 110) (d := 119) (t := 7) (by decide) (by decide) (by omega) (by omega) (by omega) (by omega) rfl
                      rw [h_.1]; omega)⟩⟩) (Nat.le_of_ble_eq_true rfl) (Nat.le_of_ble_eq_true rfl) dX11_stepHere_93
              · have c96 : r86.toInt ≠ 0 := fun z_ => c92 (Int32.toInt_inj.mp z_)
                have i97 : iv r86 1 1 := iv_Nl c96 ir86 (by decide)
                have i98 := cnr86 c96
                refine lv_bipush (v := 6) hx hb dX11_stepHere_75 (by decide) ?_
                exact u_iret C h hr hQ (⟨⟨by decide, by decide⟩, tf87, of87, (by
                    have n_ : (6 : Int32).toInt = 6 := rfl
                    have h_ := sh_1 (B := B) (L := ln.toInt.toNat) (i := (rn 32 32 B ln.toInt.toNat aa.toInt.toNat)) (c := 119) (t := 6) (by decide) (by omega) (by omega) rfl
                    rw [if_pos (by omega), h_.2]; exact n_), ⟨aa1_f87, kpu0_3f87, ipu0_3f87, (by
                    have n_ : (6 : Int32).toInt = 6 := rfl
                    have h_ := sh_1 (B := B) (L := ln.toInt.toNat) (i := (rn 32 32 B ln.toInt.toNat aa.toInt.toNat)) (c := 119) (t := 6) (by decide) (by omega) (by omega) rfl
                    rw [h_.1]; omega)⟩⟩) (Nat.le_of_ble_eq_true rfl) (Nat.le_of_ble_eq_true rfl) dX11_stepHere_77
            · have c82 : r72.toInt ≠ 0 := fun z_ => c78 (Int32.toInt_inj.mp z_)
              have i83 : iv r72 1 1 := iv_Nl c82 ir72 (by decide)
              have i84 := cnr72 c82
              refine lv_iconst (v := 5) hx hb dX11_stepHere_64 (by decide) ?_
              exact u_iret C h hr hQ (⟨⟨by decide, by decide⟩, tf73, of73, (by
                  have n_ : (5 : Int32).toInt = 5 := rfl
                  have h_ := sh_2 (B := B) (L := ln.toInt.toNat) (i := (rn 32 32 B ln.toInt.toNat aa.toInt.toNat)) (c := 115) (d := 119) (t := 5) (by decide) (by decide) (by omega) (by omega) (by omega) (by omega) rfl
                  rw [if_pos (by omega), h_.2]; exact n_), ⟨aa1_f73, kpu0_3f73, ipu0_3f73, (by
                  have n_ : (5 : Int32).toInt = 5 := rfl
                  have h_ := sh_2 (B := B) (L := ln.toInt.toNat) (i := (rn 32 32 B ln.toInt.toNat aa.toInt.toNat)) (c := 115) (d := 119) (t := 5) (by decide) (by decide) (by omega) (by omega) (by omega) (by omega) rfl
                  rw [h_.1]; omega)⟩⟩) (Nat.le_of_ble_eq_true rfl) (Nat.le_of_ble_eq_true rfl) dX11_stepHere_65
          · have c68 : r58.toInt ≠ 0 := fun z_ => c64 (Int32.toInt_inj.mp z_)
            have i69 : iv r58 1 1 := iv_Nl c68 ir58 (by decide)
            have i70 := cnr58 c68
            refine lv_iconst (v := 4) hx hb dX11_stepHere_53 (by decide) ?_
            exact u_iret C h hr hQ (⟨⟨by decide, by decide⟩, tf59, of59, (by
                have n_ : (4 : Int32).toInt = 4 := rfl
                have h_ := sh_1 (B := B) (L := ln.toInt.toNat) (i := (rn 32 32 B ln.toInt.toNat aa.toInt.toNat)) (c := 115) (t := 4) (by decide) (by omega) (by omega) rfl
                rw [if_pos (by omega), h_.2]; exact n_), ⟨aa1_f59, kpu0_3f59, ipu0_3f59, (by
                have n_ : (4 : Int32).toInt = 4 := rfl
                have h_ := sh_1 (B := B) (L := ln.toInt.toNat) (i := (rn 32 32 B ln.toInt.toNat aa.toInt.toNat)) (c := 115) (t := 4) (by decide) (by omega) (by omega) rfl
                rw [h_.1]; omega)⟩⟩) (Nat.le_of_ble_eq_true rfl) (Nat.le_of_ble_eq_true rfl) dX11_stepHere_54
        · have c54 : r44.toInt ≠ 0 := fun z_ => c50 (Int32.toInt_inj.mp z_)
          have i55 : iv r44 1 1 := iv_Nl c54 ir44 (by decide)
          have i56 := cnr44 c54
          refine lv_iconst (v := 3) hx hb dX11_stepHere_42 (by decide) ?_
          exact u_iret C h hr hQ (⟨⟨by decide, by decide⟩, tf45, of45, (by
              have n_ : (3 : Int32).toInt = 3 := rfl
              have h_ := sh_2 (B := B) (L := ln.toInt.toNat) (i := (rn 32 32 B ln.toInt.toNat aa.toInt.toNat)) (c := 115) (d := 101) (t := 3) (by decide) (by decide) (by omega) (by omega) (by omega) (by omega) rfl
              rw [if_pos (by omega), h_.2]; exact n_), ⟨aa1_f45, kpu0_3f45, ipu0_3f45, (by
              have n_ : (3 : Int32).toInt = 3 := rfl
              have h_ := sh_2 (B := B) (L := ln.toInt.toNat) (i := (rn 32 32 B ln.toInt.toNat aa.toInt.toNat)) (c := 115) (d := 101) (t := 3) (by decide) (by decide) (by omega) (by omega) (by omega) (by omega) rfl
              rw [h_.1]; omega)⟩⟩) (Nat.le_of_ble_eq_true rfl) (Nat.le_of_ble_eq_true rfl) dX11_stepHere_43
      · have c40 : r30.toInt ≠ 0 := fun z_ => c36 (Int32.toInt_inj.mp z_)
        have i41 : iv r30 1 1 := iv_Nl c40 ir30 (by decide)
        have i42 := cnr30 c40
        refine lv_iconst (v := 2) hx hb dX11_stepHere_31 (by decide) ?_
        exact u_iret C h hr hQ (⟨⟨by decide, by decide⟩, tf31, of31, (by
            have n_ : (2 : Int32).toInt = 2 := rfl
            have h_ := sh_1 (B := B) (L := ln.toInt.toNat) (i := (rn 32 32 B ln.toInt.toNat aa.toInt.toNat)) (c := 101) (t := 2) (by decide) (by omega) (by omega) rfl
            rw [if_pos (by omega), h_.2]; exact n_), ⟨aa1_f31, kpu0_3f31, ipu0_3f31, (by
            have n_ : (2 : Int32).toInt = 2 := rfl
            have h_ := sh_1 (B := B) (L := ln.toInt.toNat) (i := (rn 32 32 B ln.toInt.toNat aa.toInt.toNat)) (c := 101) (t := 2) (by decide) (by omega) (by omega) rfl
            rw [h_.1]; omega)⟩⟩) (Nat.le_of_ble_eq_true rfl) (Nat.le_of_ble_eq_true rfl) dX11_stepHere_32
    · have c26 : r16.toInt ≠ 0 := fun z_ => c22 (Int32.toInt_inj.mp z_)
      have i27 : iv r16 1 1 := iv_Nl c26 ir16 (by decide)
      have i28 := cnr16 c26
      refine lv_iconst (v := 1) hx hb dX11_stepHere_20 (by decide) ?_
      exact u_iret C h hr hQ (⟨⟨by decide, by decide⟩, tf17, of17, (by
          have n_ : (1 : Int32).toInt = 1 := rfl
          have h_ := sh_2 (B := B) (L := ln.toInt.toNat) (i := (rn 32 32 B ln.toInt.toNat aa.toInt.toNat)) (c := 110) (d := 101) (t := 1) (by decide) (by decide) (by omega) (by omega) (by omega) (by omega) rfl
          rw [if_pos (by omega), h_.2]; exact n_), ⟨aa1_f17, kpu0_3f17, ipu0_3f17, (by
          have n_ : (1 : Int32).toInt = 1 := rfl
          have h_ := sh_2 (B := B) (L := ln.toInt.toNat) (i := (rn 32 32 B ln.toInt.toNat aa.toInt.toNat)) (c := 110) (d := 101) (t := 1) (by decide) (by decide) (by omega) (by omega) (by omega) (by omega) rfl
          rw [h_.1]; omega)⟩⟩) (Nat.le_of_ble_eq_true rfl) (Nat.le_of_ble_eq_true rfl) dX11_stepHere_21
  · have c12 : r2.toInt ≠ 0 := fun z_ => c8 (Int32.toInt_inj.mp z_)
    have i13 : iv r2 1 1 := iv_Nl c12 ir2 (by decide)
    have i14 := cnr2 c12
    refine lv_iconst (v := 0) hx hb dX11_stepHere_9 (by decide) ?_
    exact u_iret C h hr hQ (⟨⟨by decide, by decide⟩, tf3, of3, (by
        have n_ : (0 : Int32).toInt = 0 := rfl
        have h_ := sh_1 (B := B) (L := ln.toInt.toNat) (i := (rn 32 32 B ln.toInt.toNat aa.toInt.toNat)) (c := 110) (t := 0) (by decide) (by omega) (by omega) rfl
        rw [if_pos (by omega), h_.2]; exact n_), ⟨aa1_f3, kpu0_3f3, ipu0_3f3, (by
        have n_ : (0 : Int32).toInt = 0 := rfl
        have h_ := sh_1 (B := B) (L := ln.toInt.toNat) (i := (rn 32 32 B ln.toInt.toNat aa.toInt.toNat)) (c := 110) (t := 0) (by decide) (by omega) (by omega) rfl
        rw [h_.1]; omega)⟩⟩) (Nat.le_of_ble_eq_true rfl) (Nat.le_of_ble_eq_true rfl) dX11_stepHere_10
