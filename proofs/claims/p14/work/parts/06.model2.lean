theorem dX11_stepsOf_0 : decode cX11_stepsOf 0 = .ok (.iconst 0, 1) := by decide +kernel
theorem dX11_stepsOf_1 : decode cX11_stepsOf 1 = .ok (.istore_n 2, 1) := by decide +kernel
theorem dX11_stepsOf_2 : decode cX11_stepsOf 2 = .ok (.iconst 0, 1) := by decide +kernel
theorem dX11_stepsOf_3 : decode cX11_stepsOf 3 = .ok (.istore_n 3, 1) := by decide +kernel
theorem dX11_stepsOf_4 : decode cX11_stepsOf 4 = .ok (.iload_n 3, 1) := by decide +kernel
theorem dX11_stepsOf_5 : decode cX11_stepsOf 5 = .ok (.bipush 8, 2) := by decide +kernel
theorem dX11_stepsOf_7 : decode cX11_stepsOf 7 = .ok (.if_icmp .ge 26, 3) := by decide +kernel
theorem dX11_stepsOf_10 : decode cX11_stepsOf 10 = .ok (.iload_n 2, 1) := by decide +kernel
theorem dX11_stepsOf_11 : decode cX11_stepsOf 11 = .ok (.aload_n 0, 1) := by decide +kernel
theorem dX11_stepsOf_12 : decode cX11_stepsOf 12 = .ok (.iload_n 1, 1) := by decide +kernel
theorem dX11_stepsOf_13 : decode cX11_stepsOf 13 = .ok (.iload_n 3, 1) := by decide +kernel
theorem dX11_stepsOf_14 : decode cX11_stepsOf 14 = .ok (.invokevirtual 175, 3) := by decide +kernel
theorem dX11_stepsOf_17 : decode cX11_stepsOf 17 = .ok (.ifCond .le 7, 3) := by decide +kernel
theorem dX11_stepsOf_24 : decode cX11_stepsOf 24 = .ok (.iconst 0, 1) := by decide +kernel
theorem dX11_stepsOf_25 : decode cX11_stepsOf 25 = .ok (.iadd, 1) := by decide +kernel
theorem dX11_stepsOf_26 : decode cX11_stepsOf 26 = .ok (.istore_n 2, 1) := by decide +kernel
theorem dX11_stepsOf_27 : decode cX11_stepsOf 27 = .ok (.iinc 3 1, 3) := by decide +kernel
theorem dX11_stepsOf_30 : decode cX11_stepsOf 30 = .ok (.goto (-26), 3) := by decide +kernel
theorem dX11_stepsOf_20 : decode cX11_stepsOf 20 = .ok (.iconst 1, 1) := by decide +kernel
theorem dX11_stepsOf_21 : decode cX11_stepsOf 21 = .ok (.goto 4, 3) := by decide +kernel
theorem dX11_stepsOf_33 : decode cX11_stepsOf 33 = .ok (.iload_n 2, 1) := by decide +kernel
theorem dX11_stepsOf_34 : decode cX11_stepsOf 34 = .ok (.ireturn, 1) := by decide +kernel
theorem dX11_worthOf_0 : decode cX11_worthOf 0 = .ok (.iconst 0, 1) := by decide +kernel
theorem dX11_worthOf_1 : decode cX11_worthOf 1 = .ok (.istore_n 2, 1) := by decide +kernel
theorem dX11_worthOf_2 : decode cX11_worthOf 2 = .ok (.iconst 0, 1) := by decide +kernel
theorem dX11_worthOf_3 : decode cX11_worthOf 3 = .ok (.istore_n 3, 1) := by decide +kernel
theorem dX11_worthOf_4 : decode cX11_worthOf 4 = .ok (.iload_n 3, 1) := by decide +kernel
theorem dX11_worthOf_5 : decode cX11_worthOf 5 = .ok (.bipush 8, 2) := by decide +kernel
theorem dX11_worthOf_7 : decode cX11_worthOf 7 = .ok (.if_icmp .ge 18, 3) := by decide +kernel
theorem dX11_worthOf_10 : decode cX11_worthOf 10 = .ok (.iload_n 2, 1) := by decide +kernel
theorem dX11_worthOf_11 : decode cX11_worthOf 11 = .ok (.aload_n 0, 1) := by decide +kernel
theorem dX11_worthOf_12 : decode cX11_worthOf 12 = .ok (.iload_n 1, 1) := by decide +kernel
theorem dX11_worthOf_13 : decode cX11_worthOf 13 = .ok (.iload_n 3, 1) := by decide +kernel
theorem dX11_worthOf_14 : decode cX11_worthOf 14 = .ok (.invokevirtual 175, 3) := by decide +kernel
theorem dX11_worthOf_17 : decode cX11_worthOf 17 = .ok (.iadd, 1) := by decide +kernel
theorem dX11_worthOf_18 : decode cX11_worthOf 18 = .ok (.istore_n 2, 1) := by decide +kernel
theorem dX11_worthOf_19 : decode cX11_worthOf 19 = .ok (.iinc 3 1, 3) := by decide +kernel
theorem dX11_worthOf_22 : decode cX11_worthOf 22 = .ok (.goto (-18), 3) := by decide +kernel
theorem dX11_worthOf_25 : decode cX11_worthOf 25 = .ok (.iload_n 2, 1) := by decide +kernel
theorem dX11_worthOf_26 : decode cX11_worthOf 26 = .ok (.ireturn, 1) := by decide +kernel
theorem dX11_bitsOf_0 : decode cX11_bitsOf 0 = .ok (.iconst 0, 1) := by decide +kernel
theorem dX11_bitsOf_1 : decode cX11_bitsOf 1 = .ok (.istore_n 2, 1) := by decide +kernel
theorem dX11_bitsOf_2 : decode cX11_bitsOf 2 = .ok (.iconst 0, 1) := by decide +kernel
theorem dX11_bitsOf_3 : decode cX11_bitsOf 3 = .ok (.istore_n 3, 1) := by decide +kernel
theorem dX11_bitsOf_4 : decode cX11_bitsOf 4 = .ok (.iload_n 3, 1) := by decide +kernel
theorem dX11_bitsOf_5 : decode cX11_bitsOf 5 = .ok (.bipush 8, 2) := by decide +kernel
theorem dX11_bitsOf_7 : decode cX11_bitsOf 7 = .ok (.if_icmp .ge 28, 3) := by decide +kernel
theorem dX11_bitsOf_10 : decode cX11_bitsOf 10 = .ok (.iload_n 2, 1) := by decide +kernel
theorem dX11_bitsOf_11 : decode cX11_bitsOf 11 = .ok (.aload_n 0, 1) := by decide +kernel
theorem dX11_bitsOf_12 : decode cX11_bitsOf 12 = .ok (.iload_n 1, 1) := by decide +kernel
theorem dX11_bitsOf_13 : decode cX11_bitsOf 13 = .ok (.iload_n 3, 1) := by decide +kernel
theorem dX11_bitsOf_14 : decode cX11_bitsOf 14 = .ok (.invokevirtual 175, 3) := by decide +kernel
theorem dX11_bitsOf_17 : decode cX11_bitsOf 17 = .ok (.ifCond .le 9, 3) := by decide +kernel
theorem dX11_bitsOf_26 : decode cX11_bitsOf 26 = .ok (.iconst 0, 1) := by decide +kernel
theorem dX11_bitsOf_27 : decode cX11_bitsOf 27 = .ok (.ior, 1) := by decide +kernel
theorem dX11_bitsOf_28 : decode cX11_bitsOf 28 = .ok (.istore_n 2, 1) := by decide +kernel
theorem dX11_bitsOf_29 : decode cX11_bitsOf 29 = .ok (.iinc 3 1, 3) := by decide +kernel
theorem dX11_bitsOf_32 : decode cX11_bitsOf 32 = .ok (.goto (-28), 3) := by decide +kernel
theorem dX11_bitsOf_20 : decode cX11_bitsOf 20 = .ok (.iconst 1, 1) := by decide +kernel
theorem dX11_bitsOf_21 : decode cX11_bitsOf 21 = .ok (.iload_n 3, 1) := by decide +kernel
theorem dX11_bitsOf_22 : decode cX11_bitsOf 22 = .ok (.ishl, 1) := by decide +kernel
theorem dX11_bitsOf_23 : decode cX11_bitsOf 23 = .ok (.goto 4, 3) := by decide +kernel
theorem dX11_bitsOf_35 : decode cX11_bitsOf 35 = .ok (.iload_n 2, 1) := by decide +kernel
theorem dX11_bitsOf_36 : decode cX11_bitsOf 36 = .ok (.ireturn, 1) := by decide +kernel
theorem dX11_driftOf_0 : decode cX11_driftOf 0 = .ok (.iconst 0, 1) := by decide +kernel
theorem dX11_driftOf_1 : decode cX11_driftOf 1 = .ok (.istore_n 3, 1) := by decide +kernel
theorem dX11_driftOf_2 : decode cX11_driftOf 2 = .ok (.iconst 0, 1) := by decide +kernel
theorem dX11_driftOf_3 : decode cX11_driftOf 3 = .ok (.istore 4, 2) := by decide +kernel
theorem dX11_driftOf_5 : decode cX11_driftOf 5 = .ok (.iload 4, 2) := by decide +kernel
theorem dX11_driftOf_7 : decode cX11_driftOf 7 = .ok (.bipush 8, 2) := by decide +kernel
theorem dX11_driftOf_9 : decode cX11_driftOf 9 = .ok (.if_icmp .ge 37, 3) := by decide +kernel
theorem dX11_driftOf_12 : decode cX11_driftOf 12 = .ok (.iload_n 3, 1) := by decide +kernel
theorem dX11_driftOf_13 : decode cX11_driftOf 13 = .ok (.aload_n 0, 1) := by decide +kernel
theorem dX11_driftOf_14 : decode cX11_driftOf 14 = .ok (.iload_n 1, 1) := by decide +kernel
theorem dX11_driftOf_15 : decode cX11_driftOf 15 = .ok (.iload 4, 2) := by decide +kernel
theorem dX11_driftOf_17 : decode cX11_driftOf 17 = .ok (.invokevirtual 175, 3) := by decide +kernel
theorem dX11_driftOf_20 : decode cX11_driftOf 20 = .ok (.iload_n 2, 1) := by decide +kernel
theorem dX11_driftOf_21 : decode cX11_driftOf 21 = .ok (.ifCond .eq 11, 3) := by decide +kernel
theorem dX11_driftOf_32 : decode cX11_driftOf 32 = .ok (.iload 4, 2) := by decide +kernel
theorem dX11_driftOf_34 : decode cX11_driftOf 34 = .ok (.invokestatic 194, 3) := by decide +kernel
theorem dX11_driftOf_37 : decode cX11_driftOf 37 = .ok (.imul, 1) := by decide +kernel
theorem dX11_driftOf_38 : decode cX11_driftOf 38 = .ok (.iadd, 1) := by decide +kernel
theorem dX11_driftOf_39 : decode cX11_driftOf 39 = .ok (.istore_n 3, 1) := by decide +kernel
theorem dX11_driftOf_40 : decode cX11_driftOf 40 = .ok (.iinc 4 1, 3) := by decide +kernel
theorem dX11_driftOf_43 : decode cX11_driftOf 43 = .ok (.goto (-38), 3) := by decide +kernel
theorem dX11_driftOf_24 : decode cX11_driftOf 24 = .ok (.iload 4, 2) := by decide +kernel
theorem dX11_driftOf_26 : decode cX11_driftOf 26 = .ok (.invokestatic 191, 3) := by decide +kernel
theorem dX11_driftOf_29 : decode cX11_driftOf 29 = .ok (.goto 8, 3) := by decide +kernel
theorem dX11_driftOf_46 : decode cX11_driftOf 46 = .ok (.iload_n 3, 1) := by decide +kernel
theorem dX11_driftOf_47 : decode cX11_driftOf 47 = .ok (.ireturn, 1) := by decide +kernel
theorem dX11_isFar_0 : decode cX11_isFar 0 = .ok (.iload_n 0, 1) := by decide +kernel
theorem dX11_isFar_1 : decode cX11_isFar 1 = .ok (.i2l, 1) := by decide +kernel
theorem dX11_isFar_2 : decode cX11_isFar 2 = .ok (.ldc2_w 233, 3) := by decide +kernel
theorem w_1696 : Cond.constantLong "QuarterWalksModel" 233 (-70) ∈ wAll := wI7 161 (by decide +kernel) (by decide +kernel)
theorem dX11_isFar_5 : decode cX11_isFar 5 = .ok (.ldc2_w 235, 3) := by decide +kernel
theorem w_1697 : Cond.constantLong "QuarterWalksModel" 235 70 ∈ wAll := wI7 162 (by decide +kernel) (by decide +kernel)
theorem dX11_isFar_8 : decode cX11_isFar 8 = .ok (.invokestatic 158, 3) := by decide +kernel
theorem dX11_isFar_11 : decode cX11_isFar 11 = .ok (.ifCond .eq 17, 3) := by decide +kernel
theorem dX11_isFar_28 : decode cX11_isFar 28 = .ok (.iconst 1, 1) := by decide +kernel
theorem dX11_isFar_29 : decode cX11_isFar 29 = .ok (.goto 4, 3) := by decide +kernel
theorem dX11_isFar_14 : decode cX11_isFar 14 = .ok (.iload_n 1, 1) := by decide +kernel
theorem dX11_isFar_15 : decode cX11_isFar 15 = .ok (.i2l, 1) := by decide +kernel
theorem dX11_isFar_16 : decode cX11_isFar 16 = .ok (.ldc2_w 233, 3) := by decide +kernel
theorem dX11_isFar_19 : decode cX11_isFar 19 = .ok (.ldc2_w 235, 3) := by decide +kernel
theorem dX11_isFar_22 : decode cX11_isFar 22 = .ok (.invokestatic 158, 3) := by decide +kernel
theorem dX11_isFar_25 : decode cX11_isFar 25 = .ok (.ifCond .ne 7, 3) := by decide +kernel
theorem dX11_isFar_32 : decode cX11_isFar 32 = .ok (.iconst 0, 1) := by decide +kernel
theorem dX11_isFar_33 : decode cX11_isFar 33 = .ok (.ireturn, 1) := by decide +kernel
theorem dX11_isLong_0 : decode cX11_isLong 0 = .ok (.iload_n 0, 1) := by decide +kernel
theorem dX11_isLong_1 : decode cX11_isLong 1 = .ok (.i2l, 1) := by decide +kernel
theorem dX11_isLong_2 : decode cX11_isLong 2 = .ok (.lconst 0, 1) := by decide +kernel
theorem dX11_isLong_3 : decode cX11_isLong 3 = .ok (.ldc2_w 237, 3) := by decide +kernel
theorem w_1692 : Cond.constantLong "QuarterWalksModel" 237 60 ∈ wAll := wI7 157 (by decide +kernel) (by decide +kernel)
theorem dX11_isLong_6 : decode cX11_isLong 6 = .ok (.invokestatic 158, 3) := by decide +kernel
theorem dX11_isLong_9 : decode cX11_isLong 9 = .ok (.ireturn, 1) := by decide +kernel
theorem dX11_isFew_0 : decode cX11_isFew 0 = .ok (.iload_n 0, 1) := by decide +kernel
theorem dX11_isFew_1 : decode cX11_isFew 1 = .ok (.i2l, 1) := by decide +kernel
theorem dX11_isFew_2 : decode cX11_isFew 2 = .ok (.lconst 0, 1) := by decide +kernel
theorem dX11_isFew_3 : decode cX11_isFew 3 = .ok (.ldc2_w 312, 3) := by decide +kernel
theorem w_1823 : Cond.constantLong "QuarterWalksModel" 312 10 ∈ wAll := wI8 48 (by decide +kernel) (by decide +kernel)
theorem dX11_isFew_6 : decode cX11_isFew 6 = .ok (.invokestatic 158, 3) := by decide +kernel
theorem dX11_isFew_9 : decode cX11_isFew 9 = .ok (.ireturn, 1) := by decide +kernel
theorem dX11_isField_0 : decode cX11_isField 0 = .ok (.iload_n 0, 1) := by decide +kernel
theorem dX11_isField_1 : decode cX11_isField 1 = .ok (.i2l, 1) := by decide +kernel
theorem dX11_isField_2 : decode cX11_isField 2 = .ok (.lconst 1, 1) := by decide +kernel
theorem dX11_isField_3 : decode cX11_isField 3 = .ok (.ldc2_w 277, 3) := by decide +kernel
theorem w_1766 : Cond.constantLong "QuarterWalksModel" 277 1000002 ∈ wAll := wI7 231 (by decide +kernel) (by decide +kernel)
theorem dX11_isField_6 : decode cX11_isField 6 = .ok (.invokestatic 158, 3) := by decide +kernel
theorem dX11_isField_9 : decode cX11_isField 9 = .ok (.ifCond .eq 19, 3) := by decide +kernel
theorem dX11_isField_28 : decode cX11_isField 28 = .ok (.iconst 0, 1) := by decide +kernel
theorem dX11_isField_12 : decode cX11_isField 12 = .ok (.iload_n 1, 1) := by decide +kernel
theorem dX11_isField_13 : decode cX11_isField 13 = .ok (.i2l, 1) := by decide +kernel
theorem dX11_isField_14 : decode cX11_isField 14 = .ok (.lconst 1, 1) := by decide +kernel
theorem dX11_isField_15 : decode cX11_isField 15 = .ok (.ldc2_w 277, 3) := by decide +kernel
theorem dX11_isField_18 : decode cX11_isField 18 = .ok (.invokestatic 158, 3) := by decide +kernel
theorem dX11_isField_21 : decode cX11_isField 21 = .ok (.ifCond .eq 7, 3) := by decide +kernel
theorem dX11_isField_24 : decode cX11_isField 24 = .ok (.iconst 1, 1) := by decide +kernel
theorem dX11_isField_25 : decode cX11_isField 25 = .ok (.goto 4, 3) := by decide +kernel
theorem dX11_isField_29 : decode cX11_isField 29 = .ok (.ireturn, 1) := by decide +kernel
theorem dX11_at_0 : decode cX11_at 0 = .ok (.aload_n 0, 1) := by decide +kernel
theorem dX11_at_1 : decode cX11_at 1 = .ok (.iconst 0, 1) := by decide +kernel
theorem dX11_at_2 : decode cX11_at 2 = .ok (.putfield 75, 3) := by decide +kernel
theorem w_1433 : Cond.fieldLink "QuarterWalksModel" 75 "QuarterWalksModel" "thrown" "I" ∈ wAll := wI6 138 (by decide +kernel) (by decide +kernel)
theorem flw_X11_75 : flw RX11 75 12 0 (.int) := ⟨RX11, TX11, 32, tyX11, rfl, inA_X11, by decide, w_1433, tyX11_ok, nmX11, by decide +kernel, Or.inl rfl⟩
theorem dX11_at_5 : decode cX11_at 5 = .ok (.iload_n 1, 1) := by decide +kernel
theorem dX11_at_6 : decode cX11_at 6 = .ok (.i2l, 1) := by decide +kernel
theorem dX11_at_7 : decode cX11_at 7 = .ok (.lconst 0, 1) := by decide +kernel
theorem dX11_at_8 : decode cX11_at 8 = .ok (.ldc2_w 179, 3) := by decide +kernel
theorem w_1647 : Cond.constantLong "QuarterWalksModel" 179 2 ∈ wAll := wI7 112 (by decide +kernel) (by decide +kernel)
theorem dX11_at_11 : decode cX11_at 11 = .ok (.invokestatic 158, 3) := by decide +kernel
theorem dX11_at_14 : decode cX11_at 14 = .ok (.ifCond .eq 28, 3) := by decide +kernel
theorem dX11_at_42 : decode cX11_at 42 = .ok (.iconst (-1), 1) := by decide +kernel
theorem dX11_at_17 : decode cX11_at 17 = .ok (.aload_n 0, 1) := by decide +kernel
theorem dX11_at_18 : decode cX11_at 18 = .ok (.iload_n 2, 1) := by decide +kernel
theorem dX11_at_19 : decode cX11_at 19 = .ok (.invokevirtual 171, 3) := by decide +kernel
theorem w_1620 : Cond.methodLink "QuarterWalksModel" 171 yX11_isSet ∈ wAll := wI7 85 (by decide +kernel) (by decide +kernel)
theorem w_51 : Cond.selects yX11_isSet.cls yX11_isSet yX11_isSet ∈ wAll := wIn 51 (by decide +kernel) (by decide +kernel)
theorem mk_X11_isSet : mk yX11_isSet 1 := ⟨by decide +kernel, w_110⟩
theorem w_1622 : Cond.instanceMethod yX11_isSet ∈ wAll := wI7 87 (by decide +kernel) (by decide +kernel)
theorem w_1623 : Cond.code yX11_isSet cX11_isSet 2 (some .boolean) ∈ wAll := wI7 88 (by decide +kernel) (by decide +kernel)
theorem dX11_at_22 : decode cX11_at 22 = .ok (.ifCond .eq 20, 3) := by decide +kernel
theorem dX11_at_25 : decode cX11_at 25 = .ok (.iload_n 3, 1) := by decide +kernel
theorem dX11_at_26 : decode cX11_at 26 = .ok (.invokestatic 239, 3) := by decide +kernel
theorem w_1689 : Cond.methodLink "QuarterWalksModel" 239 yX11_isLong ∈ wAll := wI7 154 (by decide +kernel) (by decide +kernel)
theorem mk_X11_isLong : mk yX11_isLong 1 := ⟨by decide +kernel, w_110⟩
theorem w_1690 : Cond.static yX11_isLong ∈ wAll := wI7 155 (by decide +kernel) (by decide +kernel)
theorem w_1691 : Cond.code yX11_isLong cX11_isLong 1 (some .boolean) ∈ wAll := wI7 156 (by decide +kernel) (by decide +kernel)
theorem dX11_at_29 : decode cX11_at 29 = .ok (.ifCond .eq 13, 3) := by decide +kernel
theorem dX11_at_32 : decode cX11_at 32 = .ok (.iload 4, 2) := by decide +kernel
theorem dX11_at_34 : decode cX11_at 34 = .ok (.iload 5, 2) := by decide +kernel
theorem dX11_at_36 : decode cX11_at 36 = .ok (.invokestatic 242, 3) := by decide +kernel
theorem w_1693 : Cond.methodLink "QuarterWalksModel" 242 yX11_isFar ∈ wAll := wI7 158 (by decide +kernel) (by decide +kernel)
theorem mk_X11_isFar : mk yX11_isFar 2 := ⟨by decide +kernel, w_110⟩
theorem w_1694 : Cond.static yX11_isFar ∈ wAll := wI7 159 (by decide +kernel) (by decide +kernel)
theorem w_1695 : Cond.code yX11_isFar cX11_isFar 2 (some .boolean) ∈ wAll := wI7 160 (by decide +kernel) (by decide +kernel)
theorem dX11_at_39 : decode cX11_at 39 = .ok (.ifCond .eq 5, 3) := by decide +kernel
theorem dX11_at_44 : decode cX11_at 44 = .ok (.aload_n 0, 1) := by decide +kernel
theorem dX11_at_45 : decode cX11_at 45 = .ok (.iload_n 2, 1) := by decide +kernel
theorem dX11_at_46 : decode cX11_at 46 = .ok (.iload_n 1, 1) := by decide +kernel
theorem dX11_at_47 : decode cX11_at 47 = .ok (.iconst 1, 1) := by decide +kernel
theorem dX11_at_48 : decode cX11_at 48 = .ok (.iload_n 3, 1) := by decide +kernel
theorem dX11_at_49 : decode cX11_at 49 = .ok (.invokevirtual 246, 3) := by decide +kernel
theorem w_1698 : Cond.methodLink "QuarterWalksModel" 246 yX11_goesOn ∈ wAll := wI7 163 (by decide +kernel) (by decide +kernel)
theorem w_57 : Cond.selects yX11_goesOn.cls yX11_goesOn yX11_goesOn ∈ wAll := wIn 57 (by decide +kernel) (by decide +kernel)
theorem mk_X11_goesOn : mk yX11_goesOn 4 := ⟨by decide +kernel, w_110⟩
theorem w_1700 : Cond.instanceMethod yX11_goesOn ∈ wAll := wI7 165 (by decide +kernel) (by decide +kernel)
theorem w_1701 : Cond.code yX11_goesOn cX11_goesOn 6 none ∈ wAll := wI7 166 (by decide +kernel) (by decide +kernel)
theorem dX11_at_52 : decode cX11_at 52 = .ok (.aload_n 0, 1) := by decide +kernel
theorem dX11_at_53 : decode cX11_at 53 = .ok (.iload 4, 2) := by decide +kernel
theorem dX11_at_55 : decode cX11_at 55 = .ok (.iload 5, 2) := by decide +kernel
theorem dX11_at_57 : decode cX11_at 57 = .ok (.invokevirtual 250, 3) := by decide +kernel
theorem w_1720 : Cond.methodLink "QuarterWalksModel" 250 yX11_gridAt ∈ wAll := wI7 185 (by decide +kernel) (by decide +kernel)
theorem w_60 : Cond.selects yX11_gridAt.cls yX11_gridAt yX11_gridAt ∈ wAll := wIn 60 (by decide +kernel) (by decide +kernel)
theorem mk_X11_gridAt : mk yX11_gridAt 2 := ⟨by decide +kernel, w_110⟩
theorem w_1722 : Cond.instanceMethod yX11_gridAt ∈ wAll := wI7 187 (by decide +kernel) (by decide +kernel)
theorem w_1723 : Cond.code yX11_gridAt cX11_gridAt 3 (some .long) ∈ wAll := wI7 188 (by decide +kernel) (by decide +kernel)
theorem dX11_at_60 : decode cX11_at 60 = .ok (.l2i, 1) := by decide +kernel
theorem dX11_at_43 : decode cX11_at 43 = .ok (.ireturn, 1) := by decide +kernel
theorem dX11_at_61 : decode cX11_at 61 = .ok (.ireturn, 1) := by decide +kernel
theorem dX11_isOf_0 : decode cX11_isOf 0 = .ok (.iload_n 1, 1) := by decide +kernel
theorem dX11_isOf_1 : decode cX11_isOf 1 = .ok (.tableswitch 83 0 3 #[31, 33, 62, 73], 31) := by decide +kernel
theorem dX11_isOf_32 : decode cX11_isOf 32 = .ok (.iconst 1, 1) := by decide +kernel
theorem dX11_isOf_34 : decode cX11_isOf 34 = .ok (.iload_n 3, 1) := by decide +kernel
theorem dX11_isOf_35 : decode cX11_isOf 35 = .ok (.aload_n 0, 1) := by decide +kernel
theorem dX11_isOf_36 : decode cX11_isOf 36 = .ok (.iload_n 2, 1) := by decide +kernel
theorem dX11_isOf_37 : decode cX11_isOf 37 = .ok (.bipush 8, 2) := by decide +kernel
theorem dX11_isOf_39 : decode cX11_isOf 39 = .ok (.invokevirtual 175, 3) := by decide +kernel
theorem dX11_isOf_42 : decode cX11_isOf 42 = .ok (.if_icmp .ne 19, 3) := by decide +kernel
theorem dX11_isOf_61 : decode cX11_isOf 61 = .ok (.iconst 0, 1) := by decide +kernel
theorem dX11_isOf_45 : decode cX11_isOf 45 = .ok (.iload 4, 2) := by decide +kernel
theorem dX11_isOf_47 : decode cX11_isOf 47 = .ok (.aload_n 0, 1) := by decide +kernel
theorem dX11_isOf_48 : decode cX11_isOf 48 = .ok (.iload_n 2, 1) := by decide +kernel
theorem dX11_isOf_49 : decode cX11_isOf 49 = .ok (.bipush 9, 2) := by decide +kernel
theorem dX11_isOf_51 : decode cX11_isOf 51 = .ok (.invokevirtual 175, 3) := by decide +kernel
theorem dX11_isOf_54 : decode cX11_isOf 54 = .ok (.if_icmp .ne 7, 3) := by decide +kernel
theorem dX11_isOf_57 : decode cX11_isOf 57 = .ok (.iconst 1, 1) := by decide +kernel
theorem dX11_isOf_58 : decode cX11_isOf 58 = .ok (.goto 4, 3) := by decide +kernel
theorem dX11_isOf_63 : decode cX11_isOf 63 = .ok (.iload 4, 2) := by decide +kernel
theorem dX11_isOf_65 : decode cX11_isOf 65 = .ok (.ifCond .ne 7, 3) := by decide +kernel
theorem dX11_isOf_72 : decode cX11_isOf 72 = .ok (.iconst 0, 1) := by decide +kernel
theorem dX11_isOf_68 : decode cX11_isOf 68 = .ok (.iconst 1, 1) := by decide +kernel
theorem dX11_isOf_69 : decode cX11_isOf 69 = .ok (.goto 4, 3) := by decide +kernel
theorem dX11_isOf_74 : decode cX11_isOf 74 = .ok (.iload_n 3, 1) := by decide +kernel
theorem dX11_isOf_75 : decode cX11_isOf 75 = .ok (.ifCond .ne 7, 3) := by decide +kernel
theorem dX11_isOf_82 : decode cX11_isOf 82 = .ok (.iconst 0, 1) := by decide +kernel
theorem dX11_isOf_78 : decode cX11_isOf 78 = .ok (.iconst 1, 1) := by decide +kernel
theorem dX11_isOf_79 : decode cX11_isOf 79 = .ok (.goto 4, 3) := by decide +kernel
theorem dX11_isOf_84 : decode cX11_isOf 84 = .ok (.iload_n 3, 1) := by decide +kernel
theorem dX11_isOf_85 : decode cX11_isOf 85 = .ok (.iload 4, 2) := by decide +kernel
theorem dX11_isOf_87 : decode cX11_isOf 87 = .ok (.if_icmp .ne 7, 3) := by decide +kernel
theorem dX11_isOf_94 : decode cX11_isOf 94 = .ok (.iconst 0, 1) := by decide +kernel
theorem dX11_isOf_90 : decode cX11_isOf 90 = .ok (.iconst 1, 1) := by decide +kernel
theorem dX11_isOf_91 : decode cX11_isOf 91 = .ok (.goto 4, 3) := by decide +kernel
theorem dX11_isOf_33 : decode cX11_isOf 33 = .ok (.ireturn, 1) := by decide +kernel
theorem dX11_isOf_62 : decode cX11_isOf 62 = .ok (.ireturn, 1) := by decide +kernel
theorem dX11_isOf_73 : decode cX11_isOf 73 = .ok (.ireturn, 1) := by decide +kernel
theorem dX11_isOf_83 : decode cX11_isOf 83 = .ok (.ireturn, 1) := by decide +kernel
theorem dX11_isOf_95 : decode cX11_isOf 95 = .ok (.ireturn, 1) := by decide +kernel
theorem dX11_sumOf_0 : decode cX11_sumOf 0 = .ok (.lconst 0, 1) := by decide +kernel
theorem dX11_sumOf_1 : decode cX11_sumOf 1 = .ok (.lstore_n 3, 1) := by decide +kernel
theorem dX11_sumOf_2 : decode cX11_sumOf 2 = .ok (.aload_n 0, 1) := by decide +kernel
theorem dX11_sumOf_3 : decode cX11_sumOf 3 = .ok (.iload_n 1, 1) := by decide +kernel
theorem dX11_sumOf_4 : decode cX11_sumOf 4 = .ok (.bipush 8, 2) := by decide +kernel
theorem dX11_sumOf_6 : decode cX11_sumOf 6 = .ok (.invokevirtual 175, 3) := by decide +kernel
theorem dX11_sumOf_9 : decode cX11_sumOf 9 = .ok (.istore 5, 2) := by decide +kernel
theorem dX11_sumOf_11 : decode cX11_sumOf 11 = .ok (.aload_n 0, 1) := by decide +kernel
theorem dX11_sumOf_12 : decode cX11_sumOf 12 = .ok (.iload_n 1, 1) := by decide +kernel
theorem dX11_sumOf_13 : decode cX11_sumOf 13 = .ok (.bipush 9, 2) := by decide +kernel
theorem dX11_sumOf_15 : decode cX11_sumOf 15 = .ok (.invokevirtual 175, 3) := by decide +kernel
theorem dX11_sumOf_18 : decode cX11_sumOf 18 = .ok (.istore 6, 2) := by decide +kernel
theorem dX11_sumOf_20 : decode cX11_sumOf 20 = .ok (.iload 5, 2) := by decide +kernel
theorem dX11_sumOf_22 : decode cX11_sumOf 22 = .ok (.aload_n 0, 1) := by decide +kernel
theorem dX11_sumOf_23 : decode cX11_sumOf 23 = .ok (.getfield 209, 3) := by decide +kernel
theorem dX11_sumOf_26 : decode cX11_sumOf 26 = .ok (.isub, 1) := by decide +kernel
theorem dX11_sumOf_27 : decode cX11_sumOf 27 = .ok (.istore 7, 2) := by decide +kernel
theorem dX11_sumOf_29 : decode cX11_sumOf 29 = .ok (.iload 7, 2) := by decide +kernel
theorem dX11_sumOf_31 : decode cX11_sumOf 31 = .ok (.iload 5, 2) := by decide +kernel
theorem dX11_sumOf_33 : decode cX11_sumOf 33 = .ok (.aload_n 0, 1) := by decide +kernel
theorem dX11_sumOf_34 : decode cX11_sumOf 34 = .ok (.getfield 209, 3) := by decide +kernel
theorem dX11_sumOf_37 : decode cX11_sumOf 37 = .ok (.iadd, 1) := by decide +kernel
theorem dX11_sumOf_38 : decode cX11_sumOf 38 = .ok (.if_icmp .gt 64, 3) := by decide +kernel
theorem dX11_sumOf_102 : decode cX11_sumOf 102 = .ok (.lload_n 3, 1) := by decide +kernel
theorem dX11_sumOf_103 : decode cX11_sumOf 103 = .ok (.ldc2_w 212, 3) := by decide +kernel
theorem dX11_sumOf_106 : decode cX11_sumOf 106 = .ok (.lrem, 1) := by decide +kernel
theorem dX11_sumOf_107 : decode cX11_sumOf 107 = .ok (.l2i, 1) := by decide +kernel
theorem dX11_sumOf_41 : decode cX11_sumOf 41 = .ok (.iload 6, 2) := by decide +kernel
theorem dX11_sumOf_43 : decode cX11_sumOf 43 = .ok (.aload_n 0, 1) := by decide +kernel
theorem dX11_sumOf_44 : decode cX11_sumOf 44 = .ok (.getfield 209, 3) := by decide +kernel
theorem dX11_sumOf_47 : decode cX11_sumOf 47 = .ok (.isub, 1) := by decide +kernel
theorem dX11_sumOf_48 : decode cX11_sumOf 48 = .ok (.istore 8, 2) := by decide +kernel
theorem dX11_sumOf_50 : decode cX11_sumOf 50 = .ok (.iload 8, 2) := by decide +kernel
theorem dX11_sumOf_52 : decode cX11_sumOf 52 = .ok (.iload 6, 2) := by decide +kernel
theorem dX11_sumOf_54 : decode cX11_sumOf 54 = .ok (.aload_n 0, 1) := by decide +kernel
theorem dX11_sumOf_55 : decode cX11_sumOf 55 = .ok (.getfield 209, 3) := by decide +kernel
theorem dX11_sumOf_58 : decode cX11_sumOf 58 = .ok (.iadd, 1) := by decide +kernel
theorem dX11_sumOf_59 : decode cX11_sumOf 59 = .ok (.if_icmp .gt 37, 3) := by decide +kernel
theorem dX11_sumOf_96 : decode cX11_sumOf 96 = .ok (.iinc 7 1, 3) := by decide +kernel
theorem dX11_sumOf_99 : decode cX11_sumOf 99 = .ok (.goto (-70), 3) := by decide +kernel
theorem dX11_sumOf_62 : decode cX11_sumOf 62 = .ok (.aload_n 0, 1) := by decide +kernel
theorem dX11_sumOf_63 : decode cX11_sumOf 63 = .ok (.iload_n 2, 1) := by decide +kernel
theorem dX11_sumOf_64 : decode cX11_sumOf 64 = .ok (.iload_n 1, 1) := by decide +kernel
theorem dX11_sumOf_65 : decode cX11_sumOf 65 = .ok (.iload 7, 2) := by decide +kernel
theorem dX11_sumOf_67 : decode cX11_sumOf 67 = .ok (.iload 8, 2) := by decide +kernel
theorem dX11_sumOf_69 : decode cX11_sumOf 69 = .ok (.invokevirtual 254, 3) := by decide +kernel
theorem w_1735 : Cond.methodLink "QuarterWalksModel" 254 yX11_isOf ∈ wAll := wI7 200 (by decide +kernel) (by decide +kernel)
theorem w_62 : Cond.selects yX11_isOf.cls yX11_isOf yX11_isOf ∈ wAll := wIn 62 (by decide +kernel) (by decide +kernel)
theorem mk_X11_isOf : mk yX11_isOf 4 := ⟨by decide +kernel, w_110⟩
theorem w_1737 : Cond.instanceMethod yX11_isOf ∈ wAll := wI7 202 (by decide +kernel) (by decide +kernel)
theorem w_1738 : Cond.code yX11_isOf cX11_isOf 5 (some .boolean) ∈ wAll := wI7 203 (by decide +kernel) (by decide +kernel)
theorem dX11_sumOf_72 : decode cX11_sumOf 72 = .ok (.ifCond .eq 18, 3) := by decide +kernel
theorem dX11_sumOf_90 : decode cX11_sumOf 90 = .ok (.iinc 8 1, 3) := by decide +kernel
theorem dX11_sumOf_93 : decode cX11_sumOf 93 = .ok (.goto (-43), 3) := by decide +kernel
theorem dX11_sumOf_75 : decode cX11_sumOf 75 = .ok (.lload_n 3, 1) := by decide +kernel
theorem dX11_sumOf_76 : decode cX11_sumOf 76 = .ok (.aload_n 0, 1) := by decide +kernel
theorem dX11_sumOf_77 : decode cX11_sumOf 77 = .ok (.getfield 29, 3) := by decide +kernel
theorem dX11_sumOf_80 : decode cX11_sumOf 80 = .ok (.iload 7, 2) := by decide +kernel
theorem dX11_sumOf_82 : decode cX11_sumOf 82 = .ok (.iload 8, 2) := by decide +kernel
theorem dX11_sumOf_84 : decode cX11_sumOf 84 = .ok (.invokestatic 206, 3) := by decide +kernel
theorem dX11_sumOf_87 : decode cX11_sumOf 87 = .ok (.laload, 1) := by decide +kernel
theorem dX11_sumOf_88 : decode cX11_sumOf 88 = .ok (.ladd, 1) := by decide +kernel
theorem dX11_sumOf_89 : decode cX11_sumOf 89 = .ok (.lstore_n 3, 1) := by decide +kernel
theorem dX11_sumOf_108 : decode cX11_sumOf 108 = .ok (.ireturn, 1) := by decide +kernel
theorem dX11_laysTerms_0 : decode cX11_laysTerms 0 = .ok (.aload_n 0, 1) := by decide +kernel
theorem dX11_laysTerms_1 : decode cX11_laysTerms 1 = .ok (.iload_n 1, 1) := by decide +kernel
theorem dX11_laysTerms_2 : decode cX11_laysTerms 2 = .ok (.invokevirtual 222, 3) := by decide +kernel
theorem dX11_laysTerms_5 : decode cX11_laysTerms 5 = .ok (.aload 5, 2) := by decide +kernel
theorem dX11_laysTerms_7 : decode cX11_laysTerms 7 = .ok (.iconst 0, 1) := by decide +kernel
theorem dX11_laysTerms_8 : decode cX11_laysTerms 8 = .ok (.aload_n 0, 1) := by decide +kernel
theorem dX11_laysTerms_9 : decode cX11_laysTerms 9 = .ok (.iload_n 1, 1) := by decide +kernel
theorem dX11_laysTerms_10 : decode cX11_laysTerms 10 = .ok (.iload_n 2, 1) := by decide +kernel
theorem dX11_laysTerms_11 : decode cX11_laysTerms 11 = .ok (.invokevirtual 258, 3) := by decide +kernel
theorem w_1731 : Cond.methodLink "QuarterWalksModel" 258 yX11_sumOf ∈ wAll := wI7 196 (by decide +kernel) (by decide +kernel)
theorem w_61 : Cond.selects yX11_sumOf.cls yX11_sumOf yX11_sumOf ∈ wAll := wIn 61 (by decide +kernel) (by decide +kernel)
theorem mk_X11_sumOf : mk yX11_sumOf 2 := ⟨by decide +kernel, w_110⟩
theorem w_1733 : Cond.instanceMethod yX11_sumOf ∈ wAll := wI7 198 (by decide +kernel) (by decide +kernel)
theorem w_1734 : Cond.code yX11_sumOf cX11_sumOf 9 (some .int) ∈ wAll := wI7 199 (by decide +kernel) (by decide +kernel)
theorem dX11_laysTerms_14 : decode cX11_laysTerms 14 = .ok (.iastore, 1) := by decide +kernel
theorem dX11_laysTerms_15 : decode cX11_laysTerms 15 = .ok (.iconst 1, 1) := by decide +kernel
theorem dX11_laysTerms_16 : decode cX11_laysTerms 16 = .ok (.istore 6, 2) := by decide +kernel
theorem dX11_laysTerms_18 : decode cX11_laysTerms 18 = .ok (.iload 6, 2) := by decide +kernel
theorem dX11_laysTerms_20 : decode cX11_laysTerms 20 = .ok (.iload 4, 2) := by decide +kernel
theorem dX11_laysTerms_22 : decode cX11_laysTerms 22 = .ok (.if_icmp .gt 27, 3) := by decide +kernel
theorem dX11_laysTerms_25 : decode cX11_laysTerms 25 = .ok (.aload_n 0, 1) := by decide +kernel
theorem dX11_laysTerms_26 : decode cX11_laysTerms 26 = .ok (.iload_n 1, 1) := by decide +kernel
theorem dX11_laysTerms_27 : decode cX11_laysTerms 27 = .ok (.iload_n 3, 1) := by decide +kernel
theorem dX11_laysTerms_28 : decode cX11_laysTerms 28 = .ok (.iconst 1, 1) := by decide +kernel
theorem dX11_laysTerms_29 : decode cX11_laysTerms 29 = .ok (.invokevirtual 225, 3) := by decide +kernel
theorem dX11_laysTerms_32 : decode cX11_laysTerms 32 = .ok (.aload 5, 2) := by decide +kernel
theorem dX11_laysTerms_34 : decode cX11_laysTerms 34 = .ok (.iload 6, 2) := by decide +kernel
theorem dX11_laysTerms_36 : decode cX11_laysTerms 36 = .ok (.aload_n 0, 1) := by decide +kernel
theorem dX11_laysTerms_37 : decode cX11_laysTerms 37 = .ok (.iload_n 1, 1) := by decide +kernel
theorem dX11_laysTerms_38 : decode cX11_laysTerms 38 = .ok (.iload_n 2, 1) := by decide +kernel
theorem dX11_laysTerms_39 : decode cX11_laysTerms 39 = .ok (.invokevirtual 258, 3) := by decide +kernel
theorem dX11_laysTerms_42 : decode cX11_laysTerms 42 = .ok (.iastore, 1) := by decide +kernel
theorem dX11_laysTerms_43 : decode cX11_laysTerms 43 = .ok (.iinc 6 1, 3) := by decide +kernel
theorem dX11_laysTerms_46 : decode cX11_laysTerms 46 = .ok (.goto (-28), 3) := by decide +kernel
theorem dX11_laysTerms_49 : decode cX11_laysTerms 49 = .ok (.return_, 1) := by decide +kernel
theorem dX11_series_0 : decode cX11_series 0 = .ok (.aload_n 0, 1) := by decide +kernel
theorem dX11_series_1 : decode cX11_series 1 = .ok (.iconst 0, 1) := by decide +kernel
theorem dX11_series_2 : decode cX11_series 2 = .ok (.putfield 75, 3) := by decide +kernel
theorem dX11_series_5 : decode cX11_series 5 = .ok (.aload_n 0, 1) := by decide +kernel
theorem dX11_series_6 : decode cX11_series 6 = .ok (.iload_n 1, 1) := by decide +kernel
theorem dX11_series_7 : decode cX11_series 7 = .ok (.invokevirtual 171, 3) := by decide +kernel
theorem dX11_series_10 : decode cX11_series 10 = .ok (.ifCond .eq 22, 3) := by decide +kernel
theorem dX11_series_32 : decode cX11_series 32 = .ok (.iconst (-1), 1) := by decide +kernel
theorem dX11_series_13 : decode cX11_series 13 = .ok (.iload_n 2, 1) := by decide +kernel
theorem dX11_series_14 : decode cX11_series 14 = .ok (.i2l, 1) := by decide +kernel
theorem dX11_series_15 : decode cX11_series 15 = .ok (.lconst 0, 1) := by decide +kernel
theorem dX11_series_16 : decode cX11_series 16 = .ok (.ldc2_w 261, 3) := by decide +kernel
theorem w_1730 : Cond.constantLong "QuarterWalksModel" 261 4 ∈ wAll := wI7 195 (by decide +kernel) (by decide +kernel)
theorem dX11_series_19 : decode cX11_series 19 = .ok (.invokestatic 158, 3) := by decide +kernel
theorem dX11_series_22 : decode cX11_series 22 = .ok (.ifCond .eq 10, 3) := by decide +kernel
theorem dX11_series_25 : decode cX11_series 25 = .ok (.iload_n 3, 1) := by decide +kernel
theorem dX11_series_26 : decode cX11_series 26 = .ok (.invokestatic 239, 3) := by decide +kernel
theorem dX11_series_29 : decode cX11_series 29 = .ok (.ifCond .ne 5, 3) := by decide +kernel
theorem dX11_series_34 : decode cX11_series 34 = .ok (.aload_n 0, 1) := by decide +kernel
theorem dX11_series_35 : decode cX11_series 35 = .ok (.iload_n 1, 1) := by decide +kernel
theorem dX11_series_36 : decode cX11_series 36 = .ok (.iconst 0, 1) := by decide +kernel
theorem dX11_series_37 : decode cX11_series 37 = .ok (.iconst 1, 1) := by decide +kernel
theorem dX11_series_38 : decode cX11_series 38 = .ok (.iload_n 3, 1) := by decide +kernel
theorem dX11_series_39 : decode cX11_series 39 = .ok (.invokevirtual 246, 3) := by decide +kernel
theorem dX11_series_42 : decode cX11_series 42 = .ok (.aload_n 0, 1) := by decide +kernel
theorem dX11_series_43 : decode cX11_series 43 = .ok (.iload_n 1, 1) := by decide +kernel
theorem dX11_series_44 : decode cX11_series 44 = .ok (.iload_n 2, 1) := by decide +kernel
theorem dX11_series_45 : decode cX11_series 45 = .ok (.invokevirtual 258, 3) := by decide +kernel
theorem dX11_series_33 : decode cX11_series 33 = .ok (.ireturn, 1) := by decide +kernel
theorem dX11_series_48 : decode cX11_series 48 = .ok (.ireturn, 1) := by decide +kernel
theorem dX11_power_0 : decode cX11_power 0 = .ok (.lconst 1, 1) := by decide +kernel
theorem dX11_power_1 : decode cX11_power 1 = .ok (.lstore_n 3, 1) := by decide +kernel
theorem dX11_power_2 : decode cX11_power 2 = .ok (.iconst 0, 1) := by decide +kernel
theorem dX11_power_3 : decode cX11_power 3 = .ok (.istore 5, 2) := by decide +kernel
theorem dX11_power_5 : decode cX11_power 5 = .ok (.iload 5, 2) := by decide +kernel
theorem dX11_power_7 : decode cX11_power 7 = .ok (.iload_n 2, 1) := by decide +kernel
theorem dX11_power_8 : decode cX11_power 8 = .ok (.if_icmp .ge 17, 3) := by decide +kernel
theorem dX11_power_25 : decode cX11_power 25 = .ok (.lload_n 3, 1) := by decide +kernel
theorem dX11_power_11 : decode cX11_power 11 = .ok (.lload_n 3, 1) := by decide +kernel
theorem dX11_power_12 : decode cX11_power 12 = .ok (.lload_n 0, 1) := by decide +kernel
theorem dX11_power_13 : decode cX11_power 13 = .ok (.lmul, 1) := by decide +kernel
theorem dX11_power_14 : decode cX11_power 14 = .ok (.ldc2_w 212, 3) := by decide +kernel
theorem dX11_power_17 : decode cX11_power 17 = .ok (.lrem, 1) := by decide +kernel
theorem dX11_power_18 : decode cX11_power 18 = .ok (.lstore_n 3, 1) := by decide +kernel
theorem dX11_power_19 : decode cX11_power 19 = .ok (.iinc 5 1, 3) := by decide +kernel
theorem dX11_power_22 : decode cX11_power 22 = .ok (.goto (-17), 3) := by decide +kernel
theorem dX11_power_26 : decode cX11_power 26 = .ok (.lreturn, 1) := by decide +kernel
theorem dX11_power2_0 : decode cX11_power2 0 = .ok (.lconst 1, 1) := by decide +kernel
theorem dX11_power2_1 : decode cX11_power2 1 = .ok (.lstore_n 3, 1) := by decide +kernel
theorem dX11_power2_2 : decode cX11_power2 2 = .ok (.lload_n 0, 1) := by decide +kernel
theorem dX11_power2_3 : decode cX11_power2 3 = .ok (.lstore 5, 2) := by decide +kernel
theorem dX11_power2_5 : decode cX11_power2 5 = .ok (.iload_n 2, 1) := by decide +kernel
theorem dX11_power2_6 : decode cX11_power2 6 = .ok (.istore 7, 2) := by decide +kernel
theorem dX11_power2_8 : decode cX11_power2 8 = .ok (.iload 7, 2) := by decide +kernel
theorem dX11_power2_10 : decode cX11_power2 10 = .ok (.ifCond .le 40, 3) := by decide +kernel
theorem dX11_power2_50 : decode cX11_power2 50 = .ok (.lload_n 3, 1) := by decide +kernel
theorem dX11_power2_13 : decode cX11_power2 13 = .ok (.iload 7, 2) := by decide +kernel
theorem dX11_power2_15 : decode cX11_power2 15 = .ok (.iconst 1, 1) := by decide +kernel
theorem dX11_power2_16 : decode cX11_power2 16 = .ok (.iand, 1) := by decide +kernel
theorem dX11_power2_17 : decode cX11_power2 17 = .ok (.iconst 1, 1) := by decide +kernel
theorem dX11_power2_18 : decode cX11_power2 18 = .ok (.if_icmp .ne 12, 3) := by decide +kernel
theorem dX11_power2_30 : decode cX11_power2 30 = .ok (.lload 5, 2) := by decide +kernel
theorem dX11_power2_32 : decode cX11_power2 32 = .ok (.lload 5, 2) := by decide +kernel
theorem dX11_power2_34 : decode cX11_power2 34 = .ok (.lmul, 1) := by decide +kernel
theorem dX11_power2_35 : decode cX11_power2 35 = .ok (.ldc2_w 212, 3) := by decide +kernel
theorem dX11_power2_38 : decode cX11_power2 38 = .ok (.lrem, 1) := by decide +kernel
theorem dX11_power2_39 : decode cX11_power2 39 = .ok (.lstore 5, 2) := by decide +kernel
theorem dX11_power2_41 : decode cX11_power2 41 = .ok (.iload 7, 2) := by decide +kernel
theorem dX11_power2_43 : decode cX11_power2 43 = .ok (.iconst 1, 1) := by decide +kernel
theorem dX11_power2_44 : decode cX11_power2 44 = .ok (.ishr, 1) := by decide +kernel
theorem dX11_power2_45 : decode cX11_power2 45 = .ok (.istore 7, 2) := by decide +kernel
theorem dX11_power2_47 : decode cX11_power2 47 = .ok (.goto (-39), 3) := by decide +kernel
theorem dX11_power2_21 : decode cX11_power2 21 = .ok (.lload_n 3, 1) := by decide +kernel
theorem dX11_power2_22 : decode cX11_power2 22 = .ok (.lload 5, 2) := by decide +kernel
theorem dX11_power2_24 : decode cX11_power2 24 = .ok (.lmul, 1) := by decide +kernel
theorem dX11_power2_25 : decode cX11_power2 25 = .ok (.ldc2_w 212, 3) := by decide +kernel
theorem dX11_power2_28 : decode cX11_power2 28 = .ok (.lrem, 1) := by decide +kernel
theorem dX11_power2_29 : decode cX11_power2 29 = .ok (.lstore_n 3, 1) := by decide +kernel
theorem dX11_power2_51 : decode cX11_power2 51 = .ok (.lreturn, 1) := by decide +kernel
theorem dX11_inverse_0 : decode cX11_inverse 0 = .ok (.lload_n 0, 1) := by decide +kernel
theorem dX11_inverse_1 : decode cX11_inverse 1 = .ok (.ldc_w 332, 3) := by decide +kernel
theorem w_1803 : Cond.constant "QuarterWalksModel" 332 1000001 ∈ wAll := wI8 28 (by decide +kernel) (by decide +kernel)
theorem dX11_inverse_4 : decode cX11_inverse 4 = .ok (.invokestatic 333, 3) := by decide +kernel
theorem w_1804 : Cond.methodLink "QuarterWalksModel" 333 yX11_power2 ∈ wAll := wI8 29 (by decide +kernel) (by decide +kernel)
theorem mk_X11_power2 : mk yX11_power2 2 := ⟨by decide +kernel, w_110⟩
theorem w_1805 : Cond.static yX11_power2 ∈ wAll := wI8 30 (by decide +kernel) (by decide +kernel)
theorem w_1806 : Cond.code yX11_power2 cX11_power2 8 (some .long) ∈ wAll := wI8 31 (by decide +kernel) (by decide +kernel)
theorem dX11_inverse_7 : decode cX11_inverse 7 = .ok (.lreturn, 1) := by decide +kernel
theorem dX11_by_0 : decode cX11_by 0 = .ok (.iload_n 2, 1) := by decide +kernel
theorem dX11_by_1 : decode cX11_by 1 = .ok (.ifCond .ne 7, 3) := by decide +kernel
theorem dX11_by_8 : decode cX11_by 8 = .ok (.iload_n 2, 1) := by decide +kernel
theorem dX11_by_9 : decode cX11_by 9 = .ok (.ifCond .le 7, 3) := by decide +kernel
theorem dX11_by_16 : decode cX11_by 16 = .ok (.lload_n 0, 1) := by decide +kernel
theorem dX11_by_17 : decode cX11_by 17 = .ok (.invokestatic 297, 3) := by decide +kernel
theorem w_1800 : Cond.methodLink "QuarterWalksModel" 297 yX11_inverse ∈ wAll := wI8 25 (by decide +kernel) (by decide +kernel)
theorem mk_X11_inverse : mk yX11_inverse 1 := ⟨by decide +kernel, w_110⟩
theorem w_1801 : Cond.static yX11_inverse ∈ wAll := wI8 26 (by decide +kernel) (by decide +kernel)
theorem w_1802 : Cond.code yX11_inverse cX11_inverse 2 (some .long) ∈ wAll := wI8 27 (by decide +kernel) (by decide +kernel)
theorem dX11_by_12 : decode cX11_by 12 = .ok (.lload_n 0, 1) := by decide +kernel
theorem dX11_by_13 : decode cX11_by 13 = .ok (.goto 7, 3) := by decide +kernel
theorem dX11_by_4 : decode cX11_by 4 = .ok (.lconst 1, 1) := by decide +kernel
theorem dX11_by_5 : decode cX11_by 5 = .ok (.goto 15, 3) := by decide +kernel
theorem dX11_by_20 : decode cX11_by 20 = .ok (.lreturn, 1) := by decide +kernel
theorem dX11_common_0 : decode cX11_common 0 = .ok (.iload_n 0, 1) := by decide +kernel
theorem dX11_common_1 : decode cX11_common 1 = .ok (.istore_n 2, 1) := by decide +kernel
theorem dX11_common_2 : decode cX11_common 2 = .ok (.iload_n 1, 1) := by decide +kernel
theorem dX11_common_3 : decode cX11_common 3 = .ok (.istore_n 3, 1) := by decide +kernel
theorem dX11_common_4 : decode cX11_common 4 = .ok (.iload_n 3, 1) := by decide +kernel
theorem dX11_common_5 : decode cX11_common 5 = .ok (.ifCond .eq 16, 3) := by decide +kernel
theorem dX11_common_21 : decode cX11_common 21 = .ok (.iload_n 2, 1) := by decide +kernel
theorem dX11_common_8 : decode cX11_common 8 = .ok (.iload_n 2, 1) := by decide +kernel
theorem dX11_common_9 : decode cX11_common 9 = .ok (.iload_n 3, 1) := by decide +kernel
theorem dX11_common_10 : decode cX11_common 10 = .ok (.irem, 1) := by decide +kernel
theorem dX11_common_11 : decode cX11_common 11 = .ok (.istore 4, 2) := by decide +kernel
theorem dX11_common_13 : decode cX11_common 13 = .ok (.iload_n 3, 1) := by decide +kernel
theorem dX11_common_14 : decode cX11_common 14 = .ok (.istore_n 2, 1) := by decide +kernel
theorem dX11_common_15 : decode cX11_common 15 = .ok (.iload 4, 2) := by decide +kernel
theorem dX11_common_17 : decode cX11_common 17 = .ok (.istore_n 3, 1) := by decide +kernel
theorem dX11_common_18 : decode cX11_common 18 = .ok (.goto (-14), 3) := by decide +kernel
theorem dX11_common_22 : decode cX11_common 22 = .ok (.ireturn, 1) := by decide +kernel
abbrev rm_s_X11_stepsOf : Room := { frames := 1, cells := 0, slots := 0, locals := 22 }
set_option maxRecDepth 100000 in
set_option maxHeartbeats 4000000 in
theorem s_X11_stepsOf (l : Launch) (D : va_G) (G : Nat → Nat) (b0 : Nat) (τ : Nat → Nat) (f : hM) (t : TI G 9 τ f) (u0 : Nat) (hu0 : τ u0 = 60) (u1 : Int32) (hu1 : iv u1 0 7) : mI l yX11_stepsOf cX11_stepsOf 4 (.int) rm_s_X11_stepsOf D G b0 f [.ref u0, .int u1] (fun r f1 => iv r (-2147483648) 2147483647 ∧ TI G 9 τ f1 ∧ Fr [] τ f f1) := by
  refine met2 (own := RX11) (by decide) rfl (Nat.le_of_ble_eq_true rfl) ?_
  intro p e s m args below meth c ls Q hQ C hr hini hl h
  have hl : lv_has ls 4 [(0, .ref u0), (1, .int u1)] := hl
  obtain ⟨hx, hb, hml, hown, hts, hE0, hlk⟩ := id C
  have o := Fr.rf [] τ f
  have L4 : ∀ (n4 : Nat) (ls : Array Slot) (f_4 : hM) (H : Heap) (locs : List Loc) (v4_2 : Int32) (v4_3 : Int32), 8 - v4_3.toInt < (n4 : Int) → lv_has ls 4 [(0, .ref u0), (1, .int u1), (2, .int v4_2), (3, .int v4_3)] → hw D b0 s.heap f_4 H locs → TI G 9 τ f_4 → Fr [] τ f f_4 → iv v4_2 (-2147483648) 2147483647 → iv v4_3 0 8 → W p l e rm_s_X11_stepsOf s m args below meth c H locs 0 0 Q (F0 m 4 ls []) := by
    intro n4
    induction n4 with
    | zero => intro ls f_4 H locs v4_2 v4_3 hm4 hl h t_4 o_4 iv4_2 iv4_3; exact absurd hm4 (by omega)
    | succ n4 ih4 =>
      intro ls f_4 H locs v4_2 v4_3 hm4 hl h t_4 o_4 iv4_2 iv4_3
      refine lv_iload_n hx hb dX11_stepsOf_4 rfl (lv_at hl 3 rfl) ?_
      refine lv_bipush (v := 8) hx hb dX11_stepsOf_5 (by decide) ?_
      refine lv_icmp_ge (tgt := 33) hx hb dX11_stepsOf_7 (by decide) (fun c1 => ?_) (fun c1 => ?_)
      · have c2 : 8 ≤ v4_3.toInt := Int32.le_iff_toInt_le.mp c1
        have i3 : iv v4_3 8 8 := iv_Er c2 (iv_k (x := 8) (k := 8) rfl) iv4_3 (by decide)
        refine lv_iload_n hx hb dX11_stepsOf_33 rfl (lv_at hl 2 rfl) ?_
        exact u_iret C h hr hQ (⟨iv4_2, t_4, o_4⟩) (Nat.le_of_ble_eq_true rfl) (Nat.le_of_ble_eq_true rfl) dX11_stepsOf_34
      · have c4 : v4_3.toInt < 8 := Int32.lt_iff_toInt_lt.mp (iv_nle c1)
        have i5 : iv v4_3 0 7 := iv_Ll c4 iv4_3 (iv_k (x := 8) (k := 8) rfl) (by decide)
        refine lv_iload_n hx hb dX11_stepsOf_10 rfl (lv_at hl 2 rfl) ?_
        refine lv_aload_n hx hb dX11_stepsOf_11 rfl (lv_at hl 0 rfl) ?_
        refine lv_iload_n hx hb dX11_stepsOf_12 rfl (lv_at hl 1 rfl) ?_
        refine lv_iload_n hx hb dX11_stepsOf_13 rfl (lv_at hl 3 rfl) ?_
        obtain ⟨_, r6⟩ := t_rec t_4 hu0 (by decide) wf_60
        refine k_i (r_V C h hl (As := [.int u1, .int v4_3]) (rest := [.int v4_2]) (s_X11_weightOf l D G b0 τ f_4 t_4 u0 hu0 u1 hu1 v4_3 (iv_w i5 (by decide))) r6 (Cn := RX11) (T := TX11) (N := 32) rfl rfl mk_X11_weightOf w_1631 w_1633 w_52 w_1634 ⟨Nat.le_of_ble_eq_true rfl, Nat.le_of_ble_eq_true rfl⟩ rfl (Nat.le_of_ble_eq_true rfl) ⟨Nat.le_of_ble_eq_true rfl, Nat.le_of_ble_eq_true rfl⟩ rfl dX11_stepsOf_14) h (fun r7 f8 H locs p9 h => ?_)
        obtain ⟨ir7, tf8, ogf8⟩ := p9
        have egf8 := Fr.nil2 ogf8
        subst egf8
        refine lv_if_le (tgt := 24) hx hb dX11_stepsOf_17 (by decide) (fun c10 => ?_) (fun c10 => ?_)
        · have c11 : r7.toInt ≤ 0 := Int32.le_iff_toInt_le.mp c10
          have i12 : iv r7 0 0 := iv_El c11 ir7 (iv_k (x := 0) (k := 0) rfl) (by decide)
          refine lv_iconst (v := 0) hx hb dX11_stepsOf_24 (by decide) ?_
          refine i_addk hx hb dX11_stepsOf_25 iv4_2 (k := 0) rfl (lo := (-2147483648)) (hi := 2147483647) (by decide) (fun z15 ez15 mz15 iz15 => ?_)
          refine lv_istore_n (lv' := [(2, .int z15), (0, .ref u0), (1, .int u1), (3, .int v4_3)]) hx hb dX11_stepsOf_26 rfl hl (by decide) rfl (fun ls hl => ?_)
          refine i_inc hx hb dX11_stepsOf_27 hl (k := 3) rfl i5 rfl (lo := 1) (hi := 8) (by decide) (by decide) (lv' := fun v => [(3, .int v), (2, .int z15), (0, .ref u0), (1, .int u1)]) (fun _ => rfl) (fun z16 ls ez16 mz16 iz16 hl => ?_)
          refine lv_goto (tgt := 4) hx hb dX11_stepsOf_30 (by decide) ?_
          exact ih4 ls f_4 H locs z15 z16 (show 8 - z16.toInt < _ by omega) (lv_cons hl 2 rfl (lv_cons hl 3 rfl (lv_cons hl 1 rfl (lv_cons hl 0 rfl (lv_nil hl))))) h t_4 o_4 iz15 (iv_w iz16 (by decide))
        · have c13 : 0 < r7.toInt := Int32.lt_iff_toInt_lt.mp (iv_nle c10)
          have i14 : iv r7 1 9 := iv_Lr c13 (iv_k (x := 0) (k := 0) rfl) ir7 (by decide)
          refine lv_iconst (v := 1) hx hb dX11_stepsOf_20 (by decide) ?_
          refine lv_goto (tgt := 25) hx hb dX11_stepsOf_21 (by decide) ?_
          refine lv_iadd hx hb dX11_stepsOf_25 (i_top (iv_any _) (fun z17 ez17 iz17 => ?_))
          refine lv_istore_n (lv' := [(2, .int z17), (0, .ref u0), (1, .int u1), (3, .int v4_3)]) hx hb dX11_stepsOf_26 rfl hl (by decide) rfl (fun ls hl => ?_)
          refine i_inc hx hb dX11_stepsOf_27 hl (k := 3) rfl i5 rfl (lo := 1) (hi := 8) (by decide) (by decide) (lv' := fun v => [(3, .int v), (2, .int z17), (0, .ref u0), (1, .int u1)]) (fun _ => rfl) (fun z18 ls ez18 mz18 iz18 hl => ?_)
          refine lv_goto (tgt := 4) hx hb dX11_stepsOf_30 (by decide) ?_
          exact ih4 ls f_4 H locs z17 z18 (show 8 - z18.toInt < _ by omega) (lv_cons hl 2 rfl (lv_cons hl 3 rfl (lv_cons hl 1 rfl (lv_cons hl 0 rfl (lv_nil hl))))) h t_4 o_4 iz17 (iv_w iz18 (by decide))
  refine lv_iconst (v := 0) hx hb dX11_stepsOf_0 (by decide) ?_
  refine lv_istore_n (lv' := [(2, .int 0), (0, .ref u0), (1, .int u1)]) hx hb dX11_stepsOf_1 rfl hl (by decide) rfl (fun ls hl => ?_)
  refine lv_iconst (v := 0) hx hb dX11_stepsOf_2 (by decide) ?_
  refine lv_istore_n (lv' := [(3, .int 0), (2, .int 0), (0, .ref u0), (1, .int u1)]) hx hb dX11_stepsOf_3 rfl hl (by decide) rfl (fun ls hl => ?_)
  exact L4 9 ls f s.heap [] 0 0 (by decide) (lv_cons hl 2 rfl (lv_cons hl 3 rfl (lv_cons hl 1 rfl (lv_cons hl 0 rfl (lv_nil hl))))) h t o ⟨by decide, by decide⟩ ⟨by decide, by decide⟩
abbrev rm_s_X11_worthOf : Room := { frames := 1, cells := 0, slots := 0, locals := 22 }
set_option maxRecDepth 100000 in
set_option maxHeartbeats 4000000 in
theorem s_X11_worthOf (l : Launch) (D : va_G) (G : Nat → Nat) (b0 : Nat) (τ : Nat → Nat) (f : hM) (t : TI G 9 τ f) (u0 : Nat) (hu0 : τ u0 = 60) (u1 : Int32) (hu1 : iv u1 0 7) : mI l yX11_worthOf cX11_worthOf 4 (.int) rm_s_X11_worthOf D G b0 f [.ref u0, .int u1] (fun r f1 => iv r (-2147483648) 2147483647 ∧ TI G 9 τ f1 ∧ Fr [] τ f f1) := by
  refine met2 (own := RX11) (by decide) rfl (Nat.le_of_ble_eq_true rfl) ?_
  intro p e s m args below meth c ls Q hQ C hr hini hl h
  have hl : lv_has ls 4 [(0, .ref u0), (1, .int u1)] := hl
  obtain ⟨hx, hb, hml, hown, hts, hE0, hlk⟩ := id C
  have o := Fr.rf [] τ f
  have L4 : ∀ (n4 : Nat) (ls : Array Slot) (f_4 : hM) (H : Heap) (locs : List Loc) (v4_2 : Int32) (v4_3 : Int32), 8 - v4_3.toInt < (n4 : Int) → lv_has ls 4 [(0, .ref u0), (1, .int u1), (2, .int v4_2), (3, .int v4_3)] → hw D b0 s.heap f_4 H locs → TI G 9 τ f_4 → Fr [] τ f f_4 → iv v4_2 (-2147483648) 2147483647 → iv v4_3 0 8 → W p l e rm_s_X11_worthOf s m args below meth c H locs 0 0 Q (F0 m 4 ls []) := by
    intro n4
    induction n4 with
    | zero => intro ls f_4 H locs v4_2 v4_3 hm4 hl h t_4 o_4 iv4_2 iv4_3; exact absurd hm4 (by omega)
    | succ n4 ih4 =>
      intro ls f_4 H locs v4_2 v4_3 hm4 hl h t_4 o_4 iv4_2 iv4_3
      refine lv_iload_n hx hb dX11_worthOf_4 rfl (lv_at hl 3 rfl) ?_
      refine lv_bipush (v := 8) hx hb dX11_worthOf_5 (by decide) ?_
      refine lv_icmp_ge (tgt := 25) hx hb dX11_worthOf_7 (by decide) (fun c1 => ?_) (fun c1 => ?_)
      · have c2 : 8 ≤ v4_3.toInt := Int32.le_iff_toInt_le.mp c1
        have i3 : iv v4_3 8 8 := iv_Er c2 (iv_k (x := 8) (k := 8) rfl) iv4_3 (by decide)
        refine lv_iload_n hx hb dX11_worthOf_25 rfl (lv_at hl 2 rfl) ?_
        exact u_iret C h hr hQ (⟨iv4_2, t_4, o_4⟩) (Nat.le_of_ble_eq_true rfl) (Nat.le_of_ble_eq_true rfl) dX11_worthOf_26
      · have c4 : v4_3.toInt < 8 := Int32.lt_iff_toInt_lt.mp (iv_nle c1)
        have i5 : iv v4_3 0 7 := iv_Ll c4 iv4_3 (iv_k (x := 8) (k := 8) rfl) (by decide)
        refine lv_iload_n hx hb dX11_worthOf_10 rfl (lv_at hl 2 rfl) ?_
        refine lv_aload_n hx hb dX11_worthOf_11 rfl (lv_at hl 0 rfl) ?_
        refine lv_iload_n hx hb dX11_worthOf_12 rfl (lv_at hl 1 rfl) ?_
        refine lv_iload_n hx hb dX11_worthOf_13 rfl (lv_at hl 3 rfl) ?_
        obtain ⟨_, r6⟩ := t_rec t_4 hu0 (by decide) wf_60
        refine k_i (r_V C h hl (As := [.int u1, .int v4_3]) (rest := [.int v4_2]) (s_X11_weightOf l D G b0 τ f_4 t_4 u0 hu0 u1 hu1 v4_3 (iv_w i5 (by decide))) r6 (Cn := RX11) (T := TX11) (N := 32) rfl rfl mk_X11_weightOf w_1631 w_1633 w_52 w_1634 ⟨Nat.le_of_ble_eq_true rfl, Nat.le_of_ble_eq_true rfl⟩ rfl (Nat.le_of_ble_eq_true rfl) ⟨Nat.le_of_ble_eq_true rfl, Nat.le_of_ble_eq_true rfl⟩ rfl dX11_worthOf_14) h (fun r7 f8 H locs p9 h => ?_)
        obtain ⟨ir7, tf8, ogf8⟩ := p9
        have egf8 := Fr.nil2 ogf8
        subst egf8
        refine lv_iadd hx hb dX11_worthOf_17 (i_top (iv_any _) (fun z10 ez10 iz10 => ?_))
        refine lv_istore_n (lv' := [(2, .int z10), (0, .ref u0), (1, .int u1), (3, .int v4_3)]) hx hb dX11_worthOf_18 rfl hl (by decide) rfl (fun ls hl => ?_)
        refine i_inc hx hb dX11_worthOf_19 hl (k := 3) rfl i5 rfl (lo := 1) (hi := 8) (by decide) (by decide) (lv' := fun v => [(3, .int v), (2, .int z10), (0, .ref u0), (1, .int u1)]) (fun _ => rfl) (fun z11 ls ez11 mz11 iz11 hl => ?_)
        refine lv_goto (tgt := 4) hx hb dX11_worthOf_22 (by decide) ?_
        exact ih4 ls f_4 H locs z10 z11 (show 8 - z11.toInt < _ by omega) (lv_cons hl 2 rfl (lv_cons hl 3 rfl (lv_cons hl 1 rfl (lv_cons hl 0 rfl (lv_nil hl))))) h t_4 o_4 iz10 (iv_w iz11 (by decide))
  refine lv_iconst (v := 0) hx hb dX11_worthOf_0 (by decide) ?_
  refine lv_istore_n (lv' := [(2, .int 0), (0, .ref u0), (1, .int u1)]) hx hb dX11_worthOf_1 rfl hl (by decide) rfl (fun ls hl => ?_)
  refine lv_iconst (v := 0) hx hb dX11_worthOf_2 (by decide) ?_
  refine lv_istore_n (lv' := [(3, .int 0), (2, .int 0), (0, .ref u0), (1, .int u1)]) hx hb dX11_worthOf_3 rfl hl (by decide) rfl (fun ls hl => ?_)
  exact L4 9 ls f s.heap [] 0 0 (by decide) (lv_cons hl 2 rfl (lv_cons hl 3 rfl (lv_cons hl 1 rfl (lv_cons hl 0 rfl (lv_nil hl))))) h t o ⟨by decide, by decide⟩ ⟨by decide, by decide⟩
abbrev rm_s_X11_bitsOf : Room := { frames := 1, cells := 0, slots := 0, locals := 22 }
set_option maxRecDepth 100000 in
set_option maxHeartbeats 4000000 in
theorem s_X11_bitsOf (l : Launch) (D : va_G) (G : Nat → Nat) (b0 : Nat) (τ : Nat → Nat) (f : hM) (t : TI G 9 τ f) (u0 : Nat) (hu0 : τ u0 = 60) (u1 : Int32) (hu1 : iv u1 0 7) : mI l yX11_bitsOf cX11_bitsOf 4 (.int) rm_s_X11_bitsOf D G b0 f [.ref u0, .int u1] (fun r f1 => iv r (-2147483648) 2147483647 ∧ TI G 9 τ f1 ∧ Fr [] τ f f1) := by
  refine met2 (own := RX11) (by decide) rfl (Nat.le_of_ble_eq_true rfl) ?_
  intro p e s m args below meth c ls Q hQ C hr hini hl h
  have hl : lv_has ls 4 [(0, .ref u0), (1, .int u1)] := hl
  obtain ⟨hx, hb, hml, hown, hts, hE0, hlk⟩ := id C
  have o := Fr.rf [] τ f
  have L4 : ∀ (n4 : Nat) (ls : Array Slot) (f_4 : hM) (H : Heap) (locs : List Loc) (v4_2 : Int32) (v4_3 : Int32), 8 - v4_3.toInt < (n4 : Int) → lv_has ls 4 [(0, .ref u0), (1, .int u1), (2, .int v4_2), (3, .int v4_3)] → hw D b0 s.heap f_4 H locs → TI G 9 τ f_4 → Fr [] τ f f_4 → iv v4_2 (-2147483648) 2147483647 → iv v4_3 0 8 → W p l e rm_s_X11_bitsOf s m args below meth c H locs 0 0 Q (F0 m 4 ls []) := by
    intro n4
    induction n4 with
    | zero => intro ls f_4 H locs v4_2 v4_3 hm4 hl h t_4 o_4 iv4_2 iv4_3; exact absurd hm4 (by omega)
    | succ n4 ih4 =>
      intro ls f_4 H locs v4_2 v4_3 hm4 hl h t_4 o_4 iv4_2 iv4_3
      refine lv_iload_n hx hb dX11_bitsOf_4 rfl (lv_at hl 3 rfl) ?_
      refine lv_bipush (v := 8) hx hb dX11_bitsOf_5 (by decide) ?_
      refine lv_icmp_ge (tgt := 35) hx hb dX11_bitsOf_7 (by decide) (fun c1 => ?_) (fun c1 => ?_)
      · have c2 : 8 ≤ v4_3.toInt := Int32.le_iff_toInt_le.mp c1
        have i3 : iv v4_3 8 8 := iv_Er c2 (iv_k (x := 8) (k := 8) rfl) iv4_3 (by decide)
        refine lv_iload_n hx hb dX11_bitsOf_35 rfl (lv_at hl 2 rfl) ?_
        exact u_iret C h hr hQ (⟨iv4_2, t_4, o_4⟩) (Nat.le_of_ble_eq_true rfl) (Nat.le_of_ble_eq_true rfl) dX11_bitsOf_36
      · have c4 : v4_3.toInt < 8 := Int32.lt_iff_toInt_lt.mp (iv_nle c1)
        have i5 : iv v4_3 0 7 := iv_Ll c4 iv4_3 (iv_k (x := 8) (k := 8) rfl) (by decide)
        refine lv_iload_n hx hb dX11_bitsOf_10 rfl (lv_at hl 2 rfl) ?_
        refine lv_aload_n hx hb dX11_bitsOf_11 rfl (lv_at hl 0 rfl) ?_
        refine lv_iload_n hx hb dX11_bitsOf_12 rfl (lv_at hl 1 rfl) ?_
        refine lv_iload_n hx hb dX11_bitsOf_13 rfl (lv_at hl 3 rfl) ?_
        obtain ⟨_, r6⟩ := t_rec t_4 hu0 (by decide) wf_60
        refine k_i (r_V C h hl (As := [.int u1, .int v4_3]) (rest := [.int v4_2]) (s_X11_weightOf l D G b0 τ f_4 t_4 u0 hu0 u1 hu1 v4_3 (iv_w i5 (by decide))) r6 (Cn := RX11) (T := TX11) (N := 32) rfl rfl mk_X11_weightOf w_1631 w_1633 w_52 w_1634 ⟨Nat.le_of_ble_eq_true rfl, Nat.le_of_ble_eq_true rfl⟩ rfl (Nat.le_of_ble_eq_true rfl) ⟨Nat.le_of_ble_eq_true rfl, Nat.le_of_ble_eq_true rfl⟩ rfl dX11_bitsOf_14) h (fun r7 f8 H locs p9 h => ?_)
        obtain ⟨ir7, tf8, ogf8⟩ := p9
        have egf8 := Fr.nil2 ogf8
        subst egf8
        refine lv_if_le (tgt := 26) hx hb dX11_bitsOf_17 (by decide) (fun c10 => ?_) (fun c10 => ?_)
        · have c11 : r7.toInt ≤ 0 := Int32.le_iff_toInt_le.mp c10
          have i12 : iv r7 0 0 := iv_El c11 ir7 (iv_k (x := 0) (k := 0) rfl) (by decide)
          refine lv_iconst (v := 0) hx hb dX11_bitsOf_26 (by decide) ?_
          refine lv_ior hx hb dX11_bitsOf_27 (i_top (iv_any _) (fun z15 ez15 iz15 => ?_))
          refine lv_istore_n (lv' := [(2, .int z15), (0, .ref u0), (1, .int u1), (3, .int v4_3)]) hx hb dX11_bitsOf_28 rfl hl (by decide) rfl (fun ls hl => ?_)
          refine i_inc hx hb dX11_bitsOf_29 hl (k := 3) rfl i5 rfl (lo := 1) (hi := 8) (by decide) (by decide) (lv' := fun v => [(3, .int v), (2, .int z15), (0, .ref u0), (1, .int u1)]) (fun _ => rfl) (fun z16 ls ez16 mz16 iz16 hl => ?_)
          refine lv_goto (tgt := 4) hx hb dX11_bitsOf_32 (by decide) ?_
          exact ih4 ls f_4 H locs z15 z16 (show 8 - z16.toInt < _ by omega) (lv_cons hl 2 rfl (lv_cons hl 3 rfl (lv_cons hl 1 rfl (lv_cons hl 0 rfl (lv_nil hl))))) h t_4 o_4 iz15 (iv_w iz16 (by decide))
        · have c13 : 0 < r7.toInt := Int32.lt_iff_toInt_lt.mp (iv_nle c10)
          have i14 : iv r7 1 9 := iv_Lr c13 (iv_k (x := 0) (k := 0) rfl) ir7 (by decide)
          refine lv_iconst (v := 1) hx hb dX11_bitsOf_20 (by decide) ?_
          refine lv_iload_n hx hb dX11_bitsOf_21 rfl (lv_at hl 3 rfl) ?_
          refine lv_ishl hx hb dX11_bitsOf_22 (i_top (iv_any _) (fun z17 ez17 iz17 => ?_))
          refine lv_goto (tgt := 27) hx hb dX11_bitsOf_23 (by decide) ?_
          refine lv_ior hx hb dX11_bitsOf_27 (i_top (iv_any _) (fun z18 ez18 iz18 => ?_))
          refine lv_istore_n (lv' := [(2, .int z18), (0, .ref u0), (1, .int u1), (3, .int v4_3)]) hx hb dX11_bitsOf_28 rfl hl (by decide) rfl (fun ls hl => ?_)
          refine i_inc hx hb dX11_bitsOf_29 hl (k := 3) rfl i5 rfl (lo := 1) (hi := 8) (by decide) (by decide) (lv' := fun v => [(3, .int v), (2, .int z18), (0, .ref u0), (1, .int u1)]) (fun _ => rfl) (fun z19 ls ez19 mz19 iz19 hl => ?_)
          refine lv_goto (tgt := 4) hx hb dX11_bitsOf_32 (by decide) ?_
          exact ih4 ls f_4 H locs z18 z19 (show 8 - z19.toInt < _ by omega) (lv_cons hl 2 rfl (lv_cons hl 3 rfl (lv_cons hl 1 rfl (lv_cons hl 0 rfl (lv_nil hl))))) h t_4 o_4 iz18 (iv_w iz19 (by decide))
  refine lv_iconst (v := 0) hx hb dX11_bitsOf_0 (by decide) ?_
  refine lv_istore_n (lv' := [(2, .int 0), (0, .ref u0), (1, .int u1)]) hx hb dX11_bitsOf_1 rfl hl (by decide) rfl (fun ls hl => ?_)
  refine lv_iconst (v := 0) hx hb dX11_bitsOf_2 (by decide) ?_
  refine lv_istore_n (lv' := [(3, .int 0), (2, .int 0), (0, .ref u0), (1, .int u1)]) hx hb dX11_bitsOf_3 rfl hl (by decide) rfl (fun ls hl => ?_)
  exact L4 9 ls f s.heap [] 0 0 (by decide) (lv_cons hl 2 rfl (lv_cons hl 3 rfl (lv_cons hl 1 rfl (lv_cons hl 0 rfl (lv_nil hl))))) h t o ⟨by decide, by decide⟩ ⟨by decide, by decide⟩
abbrev rm_s_X11_driftOf : Room := { frames := 1, cells := 0, slots := 0, locals := 22 }
set_option maxRecDepth 100000 in
set_option maxHeartbeats 4000000 in
theorem s_X11_driftOf (l : Launch) (D : va_G) (G : Nat → Nat) (b0 : Nat) (τ : Nat → Nat) (f : hM) (t : TI G 9 τ f) (u0 : Nat) (hu0 : τ u0 = 60) (u1 : Int32) (hu1 : iv u1 0 7) (u2 : Int32) (hu2 : iv u2 0 1) : mI l yX11_driftOf cX11_driftOf 5 (.int) rm_s_X11_driftOf D G b0 f [.ref u0, .int u1, .int u2] (fun r f1 => iv r (-2147483648) 2147483647 ∧ TI G 9 τ f1 ∧ Fr [] τ f f1) := by
  refine met2 (own := RX11) (by decide) rfl (Nat.le_of_ble_eq_true rfl) ?_
  intro p e s m args below meth c ls Q hQ C hr hini hl h
  have hl : lv_has ls 5 [(0, .ref u0), (1, .int u1), (2, .int u2)] := hl
  obtain ⟨hx, hb, hml, hown, hts, hE0, hlk⟩ := id C
  have o := Fr.rf [] τ f
  have L5 : ∀ (n5 : Nat) (ls : Array Slot) (f_5 : hM) (H : Heap) (locs : List Loc) (v5_3 : Int32) (v5_4 : Int32), 8 - v5_4.toInt < (n5 : Int) → lv_has ls 5 [(0, .ref u0), (1, .int u1), (2, .int u2), (3, .int v5_3), (4, .int v5_4)] → hw D b0 s.heap f_5 H locs → TI G 9 τ f_5 → Fr [] τ f f_5 → iv v5_3 (-2147483648) 2147483647 → iv v5_4 0 8 → W p l e rm_s_X11_driftOf s m args below meth c H locs 0 0 Q (F0 m 5 ls []) := by
    intro n5
    induction n5 with
    | zero => intro ls f_5 H locs v5_3 v5_4 hm5 hl h t_5 o_5 iv5_3 iv5_4; exact absurd hm5 (by omega)
    | succ n5 ih5 =>
      intro ls f_5 H locs v5_3 v5_4 hm5 hl h t_5 o_5 iv5_3 iv5_4
      refine lv_iload hx hb dX11_driftOf_5 (lv_at hl 4 rfl) ?_
      refine lv_bipush (v := 8) hx hb dX11_driftOf_7 (by decide) ?_
      refine lv_icmp_ge (tgt := 46) hx hb dX11_driftOf_9 (by decide) (fun c1 => ?_) (fun c1 => ?_)
      · have c2 : 8 ≤ v5_4.toInt := Int32.le_iff_toInt_le.mp c1
        have i3 : iv v5_4 8 8 := iv_Er c2 (iv_k (x := 8) (k := 8) rfl) iv5_4 (by decide)
        refine lv_iload_n hx hb dX11_driftOf_46 rfl (lv_at hl 3 rfl) ?_
        exact u_iret C h hr hQ (⟨iv5_3, t_5, o_5⟩) (Nat.le_of_ble_eq_true rfl) (Nat.le_of_ble_eq_true rfl) dX11_driftOf_47
      · have c4 : v5_4.toInt < 8 := Int32.lt_iff_toInt_lt.mp (iv_nle c1)
        have i5 : iv v5_4 0 7 := iv_Ll c4 iv5_4 (iv_k (x := 8) (k := 8) rfl) (by decide)
        refine lv_iload_n hx hb dX11_driftOf_12 rfl (lv_at hl 3 rfl) ?_
        refine lv_aload_n hx hb dX11_driftOf_13 rfl (lv_at hl 0 rfl) ?_
        refine lv_iload_n hx hb dX11_driftOf_14 rfl (lv_at hl 1 rfl) ?_
        refine lv_iload hx hb dX11_driftOf_15 (lv_at hl 4 rfl) ?_
        obtain ⟨_, r6⟩ := t_rec t_5 hu0 (by decide) wf_60
        refine k_i (r_V C h hl (As := [.int u1, .int v5_4]) (rest := [.int v5_3]) (s_X11_weightOf l D G b0 τ f_5 t_5 u0 hu0 u1 hu1 v5_4 (iv_w i5 (by decide))) r6 (Cn := RX11) (T := TX11) (N := 32) rfl rfl mk_X11_weightOf w_1631 w_1633 w_52 w_1634 ⟨Nat.le_of_ble_eq_true rfl, Nat.le_of_ble_eq_true rfl⟩ rfl (Nat.le_of_ble_eq_true rfl) ⟨Nat.le_of_ble_eq_true rfl, Nat.le_of_ble_eq_true rfl⟩ rfl dX11_driftOf_17) h (fun r7 f8 H locs p9 h => ?_)
        obtain ⟨ir7, tf8, ogf8⟩ := p9
        have egf8 := Fr.nil2 ogf8
        subst egf8
        refine lv_iload_n hx hb dX11_driftOf_20 rfl (lv_at hl 2 rfl) ?_
        refine lv_if_eq (tgt := 32) hx hb dX11_driftOf_21 (by decide) (fun c10 => ?_) (fun c10 => ?_)
        · have c11 : u2.toInt = 0 := congrArg Int32.toInt c10
          have i12 : iv u2 0 0 := iv_Q c11 hu2 (iv_k (x := 0) (k := 0) rfl) (by decide)
          refine lv_iload hx hb dX11_driftOf_32 (lv_at hl 4 rfl) ?_
          refine k_i (r_S C h hl (As := [.int v5_4]) (rest := [.int r7, .int v5_3]) (s_X11_dy l D G b0 τ f_5 t_5 v5_4 (iv_w i5 (by decide))) mk_X11_dy w_1678 w_1679 w_1680 ⟨Nat.le_of_ble_eq_true rfl, Nat.le_of_ble_eq_true rfl⟩ rfl (Nat.le_of_ble_eq_true rfl) ⟨Nat.le_of_ble_eq_true rfl, Nat.le_of_ble_eq_true rfl⟩ rfl dX11_driftOf_34) h (fun r15 f16 H locs p17 h => ?_)
          obtain ⟨ir15, tf16, ogf16⟩ := p17
          have egf16 := Fr.nil2 ogf16
          subst egf16
          refine i_muls (k1 := 9) (k2 := 1) hx hb dX11_driftOf_37 (iv_w ir7 (by decide)) (iv_w ir15 (by decide)) (lo := (-9)) (hi := 9) (by decide) (fun z18 ez18 iz18 => ?_)
          refine lv_iadd hx hb dX11_driftOf_38 (i_top (iv_any _) (fun z19 ez19 iz19 => ?_))
          refine lv_istore_n (lv' := [(3, .int z19), (0, .ref u0), (1, .int u1), (2, .int u2), (4, .int v5_4)]) hx hb dX11_driftOf_39 rfl hl (by decide) rfl (fun ls hl => ?_)
          refine i_inc hx hb dX11_driftOf_40 hl (k := 4) rfl i5 rfl (lo := 1) (hi := 8) (by decide) (by decide) (lv' := fun v => [(4, .int v), (3, .int z19), (0, .ref u0), (1, .int u1), (2, .int u2)]) (fun _ => rfl) (fun z20 ls ez20 mz20 iz20 hl => ?_)
          refine lv_goto (tgt := 5) hx hb dX11_driftOf_43 (by decide) ?_
          exact ih5 ls f_5 H locs z19 z20 (show 8 - z20.toInt < _ by omega) (lv_cons hl 2 rfl (lv_cons hl 3 rfl (lv_cons hl 4 rfl (lv_cons hl 1 rfl (lv_cons hl 0 rfl (lv_nil hl)))))) h t_5 o_5 iz19 (iv_w iz20 (by decide))
        · have c13 : u2.toInt ≠ 0 := fun z_ => c10 (Int32.toInt_inj.mp z_)
          have i14 : iv u2 1 1 := iv_Nl c13 hu2 (by decide)
          refine lv_iload hx hb dX11_driftOf_24 (lv_at hl 4 rfl) ?_
          refine k_i (r_S C h hl (As := [.int v5_4]) (rest := [.int r7, .int v5_3]) (s_X11_dx l D G b0 τ f_5 t_5 v5_4 (iv_w i5 (by decide))) mk_X11_dx w_1675 w_1676 w_1677 ⟨Nat.le_of_ble_eq_true rfl, Nat.le_of_ble_eq_true rfl⟩ rfl (Nat.le_of_ble_eq_true rfl) ⟨Nat.le_of_ble_eq_true rfl, Nat.le_of_ble_eq_true rfl⟩ rfl dX11_driftOf_26) h (fun r21 f22 H locs p23 h => ?_)
          obtain ⟨ir21, tf22, ogf22⟩ := p23
          have egf22 := Fr.nil2 ogf22
          subst egf22
          refine lv_goto (tgt := 37) hx hb dX11_driftOf_29 (by decide) ?_
          refine i_muls (k1 := 9) (k2 := 1) hx hb dX11_driftOf_37 (iv_w ir7 (by decide)) (iv_w ir21 (by decide)) (lo := (-9)) (hi := 9) (by decide) (fun z24 ez24 iz24 => ?_)
          refine lv_iadd hx hb dX11_driftOf_38 (i_top (iv_any _) (fun z25 ez25 iz25 => ?_))
          refine lv_istore_n (lv' := [(3, .int z25), (0, .ref u0), (1, .int u1), (2, .int u2), (4, .int v5_4)]) hx hb dX11_driftOf_39 rfl hl (by decide) rfl (fun ls hl => ?_)
          refine i_inc hx hb dX11_driftOf_40 hl (k := 4) rfl i5 rfl (lo := 1) (hi := 8) (by decide) (by decide) (lv' := fun v => [(4, .int v), (3, .int z25), (0, .ref u0), (1, .int u1), (2, .int u2)]) (fun _ => rfl) (fun z26 ls ez26 mz26 iz26 hl => ?_)
          refine lv_goto (tgt := 5) hx hb dX11_driftOf_43 (by decide) ?_
          exact ih5 ls f_5 H locs z25 z26 (show 8 - z26.toInt < _ by omega) (lv_cons hl 2 rfl (lv_cons hl 3 rfl (lv_cons hl 4 rfl (lv_cons hl 1 rfl (lv_cons hl 0 rfl (lv_nil hl)))))) h t_5 o_5 iz25 (iv_w iz26 (by decide))
  refine lv_iconst (v := 0) hx hb dX11_driftOf_0 (by decide) ?_
  refine lv_istore_n (lv' := [(3, .int 0), (0, .ref u0), (1, .int u1), (2, .int u2)]) hx hb dX11_driftOf_1 rfl hl (by decide) rfl (fun ls hl => ?_)
  refine lv_iconst (v := 0) hx hb dX11_driftOf_2 (by decide) ?_
  refine lv_istore (lv' := [(4, .int 0), (3, .int 0), (0, .ref u0), (1, .int u1), (2, .int u2)]) hx hb dX11_driftOf_3 hl (by decide) rfl (fun ls hl => ?_)
  exact L5 9 ls f s.heap [] 0 0 (by decide) (lv_cons hl 2 rfl (lv_cons hl 3 rfl (lv_cons hl 4 rfl (lv_cons hl 1 rfl (lv_cons hl 0 rfl (lv_nil hl)))))) h t o ⟨by decide, by decide⟩ ⟨by decide, by decide⟩
abbrev rm_s_X11_isFar : Room := { frames := 1, cells := 0, slots := 0, locals := 25 }
set_option maxRecDepth 100000 in
set_option maxHeartbeats 4000000 in
theorem s_X11_isFar (l : Launch) (D : va_G) (G : Nat → Nat) (b0 : Nat) (τ : Nat → Nat) (f : hM) (t : TI G 9 τ f) (u0 : Int32) (hu0 : iv u0 (-2147483648) 2147483647) (u1 : Int32) (hu1 : iv u1 (-2147483648) 2147483647) : mI l yX11_isFar cX11_isFar 2 (.boolean) rm_s_X11_isFar D G b0 f [.int u0, .int u1] (fun r f1 => iv r 0 1 ∧ TI G 9 τ f1 ∧ Fr [] τ f f1 ∧ (r.toInt = 0 → iv u0 (-70) 70 ∧ iv u1 (-70) 70)) := by
  refine met2 (own := RX11) (by decide) rfl (Nat.le_of_ble_eq_true rfl) ?_
  intro p e s m args below meth c ls Q hQ C hr hini hl h
  have hl : lv_has ls 2 [(0, .int u0), (1, .int u1)] := hl
  obtain ⟨hx, hb, hml, hown, hts, hE0, hlk⟩ := id C
  have o := Fr.rf [] τ f
  refine lv_iload_n hx hb dX11_isFar_0 rfl (lv_at hl 0 rfl) ?_
  refine lv_i2l hx hb dX11_isFar_1 rfl (i_topL hu0 (fun w1 ew1 mw1 iw1 => ?_))
  refine lv_ldc2 (v := -70) hx hb hown (hts _ w_1696) dX11_isFar_2 ?_
  refine lv_ldc2 (v := 70) hx hb hown (hts _ w_1697) dX11_isFar_5 ?_
  refine k_i (r_S C h hl (As := [.long w1, .long (-70), .long 70]) (rest := []) (s_X11_isIn l D G b0 τ f t w1 (-70) 70) mk_X11_isIn w_1624 w_1625 w_1626 ⟨Nat.le_of_ble_eq_true rfl, Nat.le_of_ble_eq_true rfl⟩ rfl (Nat.le_of_ble_eq_true rfl) ⟨Nat.le_of_ble_eq_true rfl, Nat.le_of_ble_eq_true rfl⟩ rfl dX11_isFar_8) h (fun r2 f3 H locs p4 h => ?_)
  have n5 : (-70 : Int64).toInt = (-70) := rfl
  have n6 : (70 : Int64).toInt = 70 := rfl
  obtain ⟨ir2, tf3, ogf3, cnr2⟩ := p4
  have egf3 := Fr.nil2 ogf3
  subst egf3
  refine lv_if_eq (tgt := 28) hx hb dX11_isFar_11 (by decide) (fun c7 => ?_) (fun c7 => ?_)
  · have c8 : r2.toInt = 0 := congrArg Int32.toInt c7
    have i9 : iv r2 0 0 := iv_Q c8 ir2 (iv_k (x := 0) (k := 0) rfl) (by decide)
    refine lv_iconst (v := 1) hx hb dX11_isFar_28 (by decide) ?_
    refine lv_goto (tgt := 33) hx hb dX11_isFar_29 (by decide) ?_
    exact u_zret C h hr hQ ⟨by decide, by decide⟩ (⟨⟨by decide, by decide⟩, t, o, (fun h_ => absurd h_ (by decide))⟩) (Nat.le_of_ble_eq_true rfl) (Nat.le_of_ble_eq_true rfl) dX11_isFar_33
  · have c10 : r2.toInt ≠ 0 := fun z_ => c7 (Int32.toInt_inj.mp z_)
    have i11 : iv r2 1 1 := iv_Nl c10 ir2 (by decide)
    obtain ⟨i12, i13⟩ := cnr2 c10
    have i14 : iv u0 (-70) 70 := ⟨by omega, by omega⟩
    refine lv_iload_n hx hb dX11_isFar_14 rfl (lv_at hl 1 rfl) ?_
    refine lv_i2l hx hb dX11_isFar_15 rfl (i_topL hu1 (fun w15 ew15 mw15 iw15 => ?_))
    refine lv_ldc2 (v := -70) hx hb hown (hts _ w_1696) dX11_isFar_16 ?_
    refine lv_ldc2 (v := 70) hx hb hown (hts _ w_1697) dX11_isFar_19 ?_
    refine k_i (r_S C h hl (As := [.long w15, .long (-70), .long 70]) (rest := []) (s_X11_isIn l D G b0 τ f t w15 (-70) 70) mk_X11_isIn w_1624 w_1625 w_1626 ⟨Nat.le_of_ble_eq_true rfl, Nat.le_of_ble_eq_true rfl⟩ rfl (Nat.le_of_ble_eq_true rfl) ⟨Nat.le_of_ble_eq_true rfl, Nat.le_of_ble_eq_true rfl⟩ rfl dX11_isFar_22) h (fun r16 f17 H locs p18 h => ?_)
    have n19 : (-70 : Int64).toInt = (-70) := rfl
    have n20 : (70 : Int64).toInt = 70 := rfl
    obtain ⟨ir16, tf17, ogf17, cnr16⟩ := p18
    have egf17 := Fr.nil2 ogf17
    subst egf17
    refine lv_if_ne (tgt := 32) hx hb dX11_isFar_25 (by decide) (fun c21 => ?_) (fun c21 => ?_)
    · have c22 : r16.toInt ≠ 0 := fun z_ => c21 (Int32.toInt_inj.mp z_)
      have i23 : iv r16 1 1 := iv_Nl c22 ir16 (by decide)
      obtain ⟨i24, i25⟩ := cnr16 c22
      have i26 : iv u1 (-70) 70 := ⟨by omega, by omega⟩
      refine lv_iconst (v := 0) hx hb dX11_isFar_32 (by decide) ?_
      exact u_zret C h hr hQ ⟨by decide, by decide⟩ (⟨⟨by decide, by decide⟩, t, o, (fun _ => ⟨i14, i26⟩)⟩) (Nat.le_of_ble_eq_true rfl) (Nat.le_of_ble_eq_true rfl) dX11_isFar_33
    · have c27 : r16.toInt = 0 := congrArg Int32.toInt c21
      have i28 : iv r16 0 0 := iv_Q c27 ir16 (iv_k (x := 0) (k := 0) rfl) (by decide)
      refine lv_iconst (v := 1) hx hb dX11_isFar_28 (by decide) ?_
      refine lv_goto (tgt := 33) hx hb dX11_isFar_29 (by decide) ?_
      exact u_zret C h hr hQ ⟨by decide, by decide⟩ (⟨⟨by decide, by decide⟩, t, o, (fun h_ => absurd h_ (by decide))⟩) (Nat.le_of_ble_eq_true rfl) (Nat.le_of_ble_eq_true rfl) dX11_isFar_33
abbrev rm_s_X11_isLong : Room := { frames := 1, cells := 0, slots := 0, locals := 25 }
set_option maxRecDepth 100000 in
set_option maxHeartbeats 4000000 in
theorem s_X11_isLong (l : Launch) (D : va_G) (G : Nat → Nat) (b0 : Nat) (τ : Nat → Nat) (f : hM) (t : TI G 9 τ f) (u0 : Int32) (hu0 : iv u0 (-2147483648) 2147483647) : mI l yX11_isLong cX11_isLong 1 (.boolean) rm_s_X11_isLong D G b0 f [.int u0] (fun r f1 => iv r 0 1 ∧ TI G 9 τ f1 ∧ Fr [] τ f f1 ∧ (r.toInt ≠ 0 → iv u0 0 60)) := by
  refine met2 (own := RX11) (by decide) rfl (Nat.le_of_ble_eq_true rfl) ?_
  intro p e s m args below meth c ls Q hQ C hr hini hl h
  have hl : lv_has ls 1 [(0, .int u0)] := hl
  obtain ⟨hx, hb, hml, hown, hts, hE0, hlk⟩ := id C
  have o := Fr.rf [] τ f
  refine lv_iload_n hx hb dX11_isLong_0 rfl (lv_at hl 0 rfl) ?_
  refine lv_i2l hx hb dX11_isLong_1 rfl (i_topL hu0 (fun w1 ew1 mw1 iw1 => ?_))
  refine lv_lconst (v := 0) hx hb dX11_isLong_2 (by decide) ?_
  refine lv_ldc2 (v := 60) hx hb hown (hts _ w_1692) dX11_isLong_3 ?_
  refine k_i (r_S C h hl (As := [.long w1, .long 0, .long 60]) (rest := []) (s_X11_isIn l D G b0 τ f t w1 0 60) mk_X11_isIn w_1624 w_1625 w_1626 ⟨Nat.le_of_ble_eq_true rfl, Nat.le_of_ble_eq_true rfl⟩ rfl (Nat.le_of_ble_eq_true rfl) ⟨Nat.le_of_ble_eq_true rfl, Nat.le_of_ble_eq_true rfl⟩ rfl dX11_isLong_6) h (fun r2 f3 H locs p4 h => ?_)
  have n5 : (0 : Int64).toInt = 0 := rfl
  have n6 : (60 : Int64).toInt = 60 := rfl
  obtain ⟨ir2, tf3, ogf3, cnr2⟩ := p4
  have egf3 := Fr.nil2 ogf3
  subst egf3
  exact u_zret C h hr hQ ir2 (⟨ir2, t, o, (by intro h_; have h9_ := cnr2 h_; omega)⟩) (Nat.le_of_ble_eq_true rfl) (Nat.le_of_ble_eq_true rfl) dX11_isLong_9
abbrev rm_s_X11_isFew : Room := { frames := 1, cells := 0, slots := 0, locals := 25 }
set_option maxRecDepth 100000 in
set_option maxHeartbeats 4000000 in
theorem s_X11_isFew (l : Launch) (D : va_G) (G : Nat → Nat) (b0 : Nat) (τ : Nat → Nat) (f : hM) (t : TI G 9 τ f) (u0 : Int32) (hu0 : iv u0 (-2147483648) 2147483647) : mI l yX11_isFew cX11_isFew 1 (.boolean) rm_s_X11_isFew D G b0 f [.int u0] (fun r f1 => iv r 0 1 ∧ TI G 9 τ f1 ∧ Fr [] τ f f1 ∧ (r.toInt ≠ 0 → iv u0 0 10)) := by
  refine met2 (own := RX11) (by decide) rfl (Nat.le_of_ble_eq_true rfl) ?_
  intro p e s m args below meth c ls Q hQ C hr hini hl h
  have hl : lv_has ls 1 [(0, .int u0)] := hl
  obtain ⟨hx, hb, hml, hown, hts, hE0, hlk⟩ := id C
  have o := Fr.rf [] τ f
  refine lv_iload_n hx hb dX11_isFew_0 rfl (lv_at hl 0 rfl) ?_
  refine lv_i2l hx hb dX11_isFew_1 rfl (i_topL hu0 (fun w1 ew1 mw1 iw1 => ?_))
  refine lv_lconst (v := 0) hx hb dX11_isFew_2 (by decide) ?_
  refine lv_ldc2 (v := 10) hx hb hown (hts _ w_1823) dX11_isFew_3 ?_
  refine k_i (r_S C h hl (As := [.long w1, .long 0, .long 10]) (rest := []) (s_X11_isIn l D G b0 τ f t w1 0 10) mk_X11_isIn w_1624 w_1625 w_1626 ⟨Nat.le_of_ble_eq_true rfl, Nat.le_of_ble_eq_true rfl⟩ rfl (Nat.le_of_ble_eq_true rfl) ⟨Nat.le_of_ble_eq_true rfl, Nat.le_of_ble_eq_true rfl⟩ rfl dX11_isFew_6) h (fun r2 f3 H locs p4 h => ?_)
  have n5 : (0 : Int64).toInt = 0 := rfl
  have n6 : (10 : Int64).toInt = 10 := rfl
  obtain ⟨ir2, tf3, ogf3, cnr2⟩ := p4
  have egf3 := Fr.nil2 ogf3
  subst egf3
  exact u_zret C h hr hQ ir2 (⟨ir2, t, o, (by intro h_; have h9_ := cnr2 h_; omega)⟩) (Nat.le_of_ble_eq_true rfl) (Nat.le_of_ble_eq_true rfl) dX11_isFew_9
abbrev rm_s_X11_isField : Room := { frames := 1, cells := 0, slots := 0, locals := 25 }
set_option maxRecDepth 100000 in
set_option maxHeartbeats 4000000 in
theorem s_X11_isField (l : Launch) (D : va_G) (G : Nat → Nat) (b0 : Nat) (τ : Nat → Nat) (f : hM) (t : TI G 9 τ f) (u0 : Int32) (hu0 : iv u0 (-2147483648) 2147483647) (u1 : Int32) (hu1 : iv u1 (-2147483648) 2147483647) : mI l yX11_isField cX11_isField 2 (.boolean) rm_s_X11_isField D G b0 f [.int u0, .int u1] (fun r f1 => iv r 0 1 ∧ TI G 9 τ f1 ∧ Fr [] τ f f1 ∧ (r.toInt ≠ 0 → iv u0 1 1000002 ∧ iv u1 1 1000002)) := by
  refine met2 (own := RX11) (by decide) rfl (Nat.le_of_ble_eq_true rfl) ?_
  intro p e s m args below meth c ls Q hQ C hr hini hl h
  have hl : lv_has ls 2 [(0, .int u0), (1, .int u1)] := hl
  obtain ⟨hx, hb, hml, hown, hts, hE0, hlk⟩ := id C
  have o := Fr.rf [] τ f
  refine lv_iload_n hx hb dX11_isField_0 rfl (lv_at hl 0 rfl) ?_
  refine lv_i2l hx hb dX11_isField_1 rfl (i_topL hu0 (fun w1 ew1 mw1 iw1 => ?_))
  refine lv_lconst (v := 1) hx hb dX11_isField_2 (by decide) ?_
  refine lv_ldc2 (v := 1000002) hx hb hown (hts _ w_1766) dX11_isField_3 ?_
  refine k_i (r_S C h hl (As := [.long w1, .long 1, .long 1000002]) (rest := []) (s_X11_isIn l D G b0 τ f t w1 1 1000002) mk_X11_isIn w_1624 w_1625 w_1626 ⟨Nat.le_of_ble_eq_true rfl, Nat.le_of_ble_eq_true rfl⟩ rfl (Nat.le_of_ble_eq_true rfl) ⟨Nat.le_of_ble_eq_true rfl, Nat.le_of_ble_eq_true rfl⟩ rfl dX11_isField_6) h (fun r2 f3 H locs p4 h => ?_)
  have n5 : (1 : Int64).toInt = 1 := rfl
  have n6 : (1000002 : Int64).toInt = 1000002 := rfl
  obtain ⟨ir2, tf3, ogf3, cnr2⟩ := p4
  have egf3 := Fr.nil2 ogf3
  subst egf3
  refine lv_if_eq (tgt := 28) hx hb dX11_isField_9 (by decide) (fun c7 => ?_) (fun c7 => ?_)
  · have c8 : r2.toInt = 0 := congrArg Int32.toInt c7
    have i9 : iv r2 0 0 := iv_Q c8 ir2 (iv_k (x := 0) (k := 0) rfl) (by decide)
    refine lv_iconst (v := 0) hx hb dX11_isField_28 (by decide) ?_
    exact u_zret C h hr hQ ⟨by decide, by decide⟩ (⟨⟨by decide, by decide⟩, t, o, (fun h_ => absurd h_ (by decide))⟩) (Nat.le_of_ble_eq_true rfl) (Nat.le_of_ble_eq_true rfl) dX11_isField_29
  · have c10 : r2.toInt ≠ 0 := fun z_ => c7 (Int32.toInt_inj.mp z_)
    have i11 : iv r2 1 1 := iv_Nl c10 ir2 (by decide)
    obtain ⟨i12, i13⟩ := cnr2 c10
    have i14 : iv u0 1 1000002 := ⟨by omega, by omega⟩
    refine lv_iload_n hx hb dX11_isField_12 rfl (lv_at hl 1 rfl) ?_
    refine lv_i2l hx hb dX11_isField_13 rfl (i_topL hu1 (fun w15 ew15 mw15 iw15 => ?_))
    refine lv_lconst (v := 1) hx hb dX11_isField_14 (by decide) ?_
    refine lv_ldc2 (v := 1000002) hx hb hown (hts _ w_1766) dX11_isField_15 ?_
    refine k_i (r_S C h hl (As := [.long w15, .long 1, .long 1000002]) (rest := []) (s_X11_isIn l D G b0 τ f t w15 1 1000002) mk_X11_isIn w_1624 w_1625 w_1626 ⟨Nat.le_of_ble_eq_true rfl, Nat.le_of_ble_eq_true rfl⟩ rfl (Nat.le_of_ble_eq_true rfl) ⟨Nat.le_of_ble_eq_true rfl, Nat.le_of_ble_eq_true rfl⟩ rfl dX11_isField_18) h (fun r16 f17 H locs p18 h => ?_)
    have n19 : (1 : Int64).toInt = 1 := rfl
    have n20 : (1000002 : Int64).toInt = 1000002 := rfl
    obtain ⟨ir16, tf17, ogf17, cnr16⟩ := p18
    have egf17 := Fr.nil2 ogf17
    subst egf17
    refine lv_if_eq (tgt := 28) hx hb dX11_isField_21 (by decide) (fun c21 => ?_) (fun c21 => ?_)
    · have c22 : r16.toInt = 0 := congrArg Int32.toInt c21
      have i23 : iv r16 0 0 := iv_Q c22 ir16 (iv_k (x := 0) (k := 0) rfl) (by decide)
      refine lv_iconst (v := 0) hx hb dX11_isField_28 (by decide) ?_
      exact u_zret C h hr hQ ⟨by decide, by decide⟩ (⟨⟨by decide, by decide⟩, t, o, (fun h_ => absurd h_ (by decide))⟩) (Nat.le_of_ble_eq_true rfl) (Nat.le_of_ble_eq_true rfl) dX11_isField_29
    · have c24 : r16.toInt ≠ 0 := fun z_ => c21 (Int32.toInt_inj.mp z_)
      have i25 : iv r16 1 1 := iv_Nl c24 ir16 (by decide)
      obtain ⟨i26, i27⟩ := cnr16 c24
      have i28 : iv u1 1 1000002 := ⟨by omega, by omega⟩
      refine lv_iconst (v := 1) hx hb dX11_isField_24 (by decide) ?_
      refine lv_goto (tgt := 29) hx hb dX11_isField_25 (by decide) ?_
      exact u_zret C h hr hQ ⟨by decide, by decide⟩ (⟨⟨by decide, by decide⟩, t, o, (fun _ => ⟨i14, i28⟩)⟩) (Nat.le_of_ble_eq_true rfl) (Nat.le_of_ble_eq_true rfl) dX11_isField_29
abbrev rm_s_X11_at : Room := { frames := 3, cells := 0, slots := 0, locals := 83 }
set_option maxRecDepth 100000 in
set_option maxHeartbeats 4000000 in
theorem s_X11_at (l : Launch) (D : va_G) (G : Nat → Nat) (b0 : Nat) (τ : Nat → Nat) (f : hM) (t : TI G 9 τ f) (u0 : Nat) (hu0 : τ u0 = 60) (u1 : Int32) (hu1 : iv u1 (-2147483648) 2147483647) (u2 : Int32) (hu2 : iv u2 (-2147483648) 2147483647) (u3 : Int32) (hu3 : iv u3 (-2147483648) 2147483647) (u4 : Int32) (hu4 : iv u4 (-2147483648) 2147483647) (u5 : Int32) (hu5 : iv u5 (-2147483648) 2147483647) (hNG : NGs τ f u0) : mI l yX11_at cX11_at 6 (.int) rm_s_X11_at D G b0 f [.ref u0, .int u1, .int u2, .int u3, .int u4, .int u5] (fun r f1 => iv r (-2147483648) 2147483647 ∧ TI G 9 τ f1 ∧ Fr [60, 67, 60001, 60013, 60014, 60015] τ f f1 ∧ NGs τ f1 u0) := by
  refine met2 (own := RX11) (by decide) rfl (Nat.le_of_ble_eq_true rfl) ?_
  intro p e s m args below meth c ls Q hQ C hr hini hl h
  have hl : lv_has ls 6 [(0, .ref u0), (1, .int u1), (2, .int u2), (3, .int u3), (4, .int u4), (5, .int u5)] := hl
  obtain ⟨hx, hb, hml, hown, hts, hE0, hlk⟩ := id C
  have o := Fr.rf [60, 67, 60001, 60013, 60014, 60015] τ f
  refine lv_aload_n hx hb dX11_at_0 rfl (lv_at hl 0 rfl) ?_
  refine lv_iconst (v := 0) hx hb dX11_at_1 (by decide) ?_
  refine t_put C h t o hu0 (by decide) (by decide) (by decide) wf_60 fw_60 (k := 0) rfl flw_X11_75 (Or.inr ⟨_, _, _, rfl, rfl⟩) (v := .int 0) rfl rfl ⟨_, rfl, ⟨by decide, by decide⟩⟩ dX11_at_2 (fun f1 H locs h tf1 of1 hq ha_ hn_ hk_ => ?_)
  have k2 := NGs.pk hNG hk_ (by decide) (by decide)
  have k3 := ha_
  refine lv_iload_n hx hb dX11_at_5 rfl (lv_at hl 1 rfl) ?_
  refine lv_i2l hx hb dX11_at_6 rfl (i_topL hu1 (fun w4 ew4 mw4 iw4 => ?_))
  refine lv_lconst (v := 0) hx hb dX11_at_7 (by decide) ?_
  refine lv_ldc2 (v := 2) hx hb hown (hts _ w_1647) dX11_at_8 ?_
  refine k_i (r_S C h hl (As := [.long w4, .long 0, .long 2]) (rest := []) (s_X11_isIn l D G b0 τ f1 tf1 w4 0 2) mk_X11_isIn w_1624 w_1625 w_1626 ⟨Nat.le_of_ble_eq_true rfl, Nat.le_of_ble_eq_true rfl⟩ rfl (Nat.le_of_ble_eq_true rfl) ⟨Nat.le_of_ble_eq_true rfl, Nat.le_of_ble_eq_true rfl⟩ rfl dX11_at_11) h (fun r5 f6 H locs p7 h => ?_)
  have n8 : (0 : Int64).toInt = 0 := rfl
  have n9 : (2 : Int64).toInt = 2 := rfl
  obtain ⟨ir5, tf6, ogf6, cnr5⟩ := p7
  have egf6 := Fr.nil2 ogf6
  subst egf6
  refine lv_if_eq (tgt := 42) hx hb dX11_at_14 (by decide) (fun c10 => ?_) (fun c10 => ?_)
  · have c11 : r5.toInt = 0 := congrArg Int32.toInt c10
    have i12 : iv r5 0 0 := iv_Q c11 ir5 (iv_k (x := 0) (k := 0) rfl) (by decide)
    refine lv_iconst (v := -1) hx hb dX11_at_42 (by decide) ?_
    exact u_iret C h hr hQ (⟨⟨by decide, by decide⟩, tf1, of1, k2⟩) (Nat.le_of_ble_eq_true rfl) (Nat.le_of_ble_eq_true rfl) dX11_at_43
  · have c13 : r5.toInt ≠ 0 := fun z_ => c10 (Int32.toInt_inj.mp z_)
    have i14 : iv r5 1 1 := iv_Nl c13 ir5 (by decide)
    obtain ⟨i15, i16⟩ := cnr5 c13
    have i17 : iv u1 0 2 := ⟨by omega, by omega⟩
    refine lv_aload_n hx hb dX11_at_17 rfl (lv_at hl 0 rfl) ?_
    refine lv_iload_n hx hb dX11_at_18 rfl (lv_at hl 2 rfl) ?_
    obtain ⟨_, r18⟩ := t_rec tf1 hu0 (by decide) wf_60
    refine k_i (r_V C h hl (As := [.int u2]) (rest := []) (s_X11_isSet l D G b0 τ f1 tf1 u0 hu0 u2 hu2) r18 (Cn := RX11) (T := TX11) (N := 32) rfl rfl mk_X11_isSet w_1620 w_1622 w_51 w_1623 ⟨Nat.le_of_ble_eq_true rfl, Nat.le_of_ble_eq_true rfl⟩ rfl (Nat.le_of_ble_eq_true rfl) ⟨Nat.le_of_ble_eq_true rfl, Nat.le_of_ble_eq_true rfl⟩ rfl dX11_at_19) h (fun r19 f20 H locs p21 h => ?_)
    obtain ⟨ir19, tf20, ogf20, cnr19⟩ := p21
    have egf20 := Fr.nil2 ogf20
    subst egf20
    refine lv_if_eq (tgt := 42) hx hb dX11_at_22 (by decide) (fun c22 => ?_) (fun c22 => ?_)
    · have c23 : r19.toInt = 0 := congrArg Int32.toInt c22
      have i24 : iv r19 0 0 := iv_Q c23 ir19 (iv_k (x := 0) (k := 0) rfl) (by decide)
      refine lv_iconst (v := -1) hx hb dX11_at_42 (by decide) ?_
      exact u_iret C h hr hQ (⟨⟨by decide, by decide⟩, tf1, of1, k2⟩) (Nat.le_of_ble_eq_true rfl) (Nat.le_of_ble_eq_true rfl) dX11_at_43
    · have c25 : r19.toInt ≠ 0 := fun z_ => c22 (Int32.toInt_inj.mp z_)
      have i26 : iv r19 1 1 := iv_Nl c25 ir19 (by decide)
      have i27 := cnr19 c25
      refine lv_iload_n hx hb dX11_at_25 rfl (lv_at hl 3 rfl) ?_
      refine k_i (r_S C h hl (As := [.int u3]) (rest := []) (s_X11_isLong l D G b0 τ f1 tf1 u3 hu3) mk_X11_isLong w_1689 w_1690 w_1691 ⟨Nat.le_of_ble_eq_true rfl, Nat.le_of_ble_eq_true rfl⟩ rfl (Nat.le_of_ble_eq_true rfl) ⟨Nat.le_of_ble_eq_true rfl, Nat.le_of_ble_eq_true rfl⟩ rfl dX11_at_26) h (fun r28 f29 H locs p30 h => ?_)
      obtain ⟨ir28, tf29, ogf29, cnr28⟩ := p30
      have egf29 := Fr.nil2 ogf29
      subst egf29
      refine lv_if_eq (tgt := 42) hx hb dX11_at_29 (by decide) (fun c31 => ?_) (fun c31 => ?_)
      · have c32 : r28.toInt = 0 := congrArg Int32.toInt c31
        have i33 : iv r28 0 0 := iv_Q c32 ir28 (iv_k (x := 0) (k := 0) rfl) (by decide)
        refine lv_iconst (v := -1) hx hb dX11_at_42 (by decide) ?_
        exact u_iret C h hr hQ (⟨⟨by decide, by decide⟩, tf1, of1, k2⟩) (Nat.le_of_ble_eq_true rfl) (Nat.le_of_ble_eq_true rfl) dX11_at_43
      · have c34 : r28.toInt ≠ 0 := fun z_ => c31 (Int32.toInt_inj.mp z_)
        have i35 : iv r28 1 1 := iv_Nl c34 ir28 (by decide)
        have i36 := cnr28 c34
        refine lv_iload hx hb dX11_at_32 (lv_at hl 4 rfl) ?_
        refine lv_iload hx hb dX11_at_34 (lv_at hl 5 rfl) ?_
        refine k_i (r_S C h hl (As := [.int u4, .int u5]) (rest := []) (s_X11_isFar l D G b0 τ f1 tf1 u4 hu4 u5 hu5) mk_X11_isFar w_1693 w_1694 w_1695 ⟨Nat.le_of_ble_eq_true rfl, Nat.le_of_ble_eq_true rfl⟩ rfl (Nat.le_of_ble_eq_true rfl) ⟨Nat.le_of_ble_eq_true rfl, Nat.le_of_ble_eq_true rfl⟩ rfl dX11_at_36) h (fun r37 f38 H locs p39 h => ?_)
        obtain ⟨ir37, tf38, ogf38, czr37⟩ := p39
        have egf38 := Fr.nil2 ogf38
        subst egf38
        refine lv_if_eq (tgt := 44) hx hb dX11_at_39 (by decide) (fun c40 => ?_) (fun c40 => ?_)
        · have c41 : r37.toInt = 0 := congrArg Int32.toInt c40
          have i42 : iv r37 0 0 := iv_Q c41 ir37 (iv_k (x := 0) (k := 0) rfl) (by decide)
          obtain ⟨i43, i44⟩ := czr37 c41
          refine lv_aload_n hx hb dX11_at_44 rfl (lv_at hl 0 rfl) ?_
          refine lv_iload_n hx hb dX11_at_45 rfl (lv_at hl 2 rfl) ?_
          refine lv_iload_n hx hb dX11_at_46 rfl (lv_at hl 1 rfl) ?_
          refine lv_iconst (v := 1) hx hb dX11_at_47 (by decide) ?_
          refine lv_iload_n hx hb dX11_at_48 rfl (lv_at hl 3 rfl) ?_
          obtain ⟨_, r47⟩ := t_rec tf1 hu0 (by decide) wf_60
          refine k_v (r_V C h hl (As := [.int u2, .int u1, .int 1, .int u3]) (rest := []) (s_X11_goesOn l D G b0 τ f1 tf1 u0 hu0 u2 i27 u1 (iv_w i17 (by decide)) 1 (iv_w (iv_k (x := 1) (k := 1) rfl) (by decide)) u3 i36 k2) r47 (Cn := RX11) (T := TX11) (N := 32) rfl rfl mk_X11_goesOn w_1698 w_1700 w_57 w_1701 ⟨Nat.le_of_ble_eq_true rfl, Nat.le_of_ble_eq_true rfl⟩ rfl (Nat.le_of_ble_eq_true rfl) ⟨Nat.le_of_ble_eq_true rfl, Nat.le_of_ble_eq_true rfl⟩ rfl dX11_at_49) h (fun f49 H locs p50 h => ?_)
          have n51 : (1 : Int32).toInt = 1 := rfl
          obtain ⟨tf49, ogf49, ⟨gg_f49, kpu0_14f49, ipu0_14f49, rpu0_14f49⟩, ngf49⟩ := p50
          have of49 : Fr [60, 67, 60001, 60013, 60014, 60015] τ f f49 := Fr.tr of1 ogf49 (by decide) (by decide)
          refine lv_aload_n hx hb dX11_at_52 rfl (lv_at hl 0 rfl) ?_
          refine lv_iload hx hb dX11_at_53 (lv_at hl 4 rfl) ?_
          refine lv_iload hx hb dX11_at_55 (lv_at hl 5 rfl) ?_
          obtain ⟨_, r52⟩ := t_rec tf49 hu0 (by decide) wf_60
          refine k_l (r_V C h hl (As := [.int u4, .int u5]) (rest := []) (s_X11_gridAt l D G b0 τ f49 tf49 u0 hu0 u4 (iv_w i43 (by decide)) u5 (iv_w i44 (by decide))) r52 (Cn := RX11) (T := TX11) (N := 32) rfl rfl mk_X11_gridAt w_1720 w_1722 w_60 w_1723 ⟨Nat.le_of_ble_eq_true rfl, Nat.le_of_ble_eq_true rfl⟩ rfl (Nat.le_of_ble_eq_true rfl) ⟨Nat.le_of_ble_eq_true rfl, Nat.le_of_ble_eq_true rfl⟩ rfl dX11_at_57) h (fun r53 f54 H locs p55 h => ?_)
          obtain ⟨tf54, ogf54⟩ := p55
          have egf54 := Fr.nil2 ogf54
          subst egf54
          refine lv_l2i hx hb dX11_at_60 rfl (i_top (iv_any _) (fun z56 ez56 iz56 => ?_))
          exact u_iret C h hr hQ (⟨iz56, tf49, of49, ngf49⟩) (Nat.le_of_ble_eq_true rfl) (Nat.le_of_ble_eq_true rfl) dX11_at_61
        · have c45 : r37.toInt ≠ 0 := fun z_ => c40 (Int32.toInt_inj.mp z_)
          have i46 : iv r37 1 1 := iv_Nl c45 ir37 (by decide)
          refine lv_iconst (v := -1) hx hb dX11_at_42 (by decide) ?_
          exact u_iret C h hr hQ (⟨⟨by decide, by decide⟩, tf1, of1, k2⟩) (Nat.le_of_ble_eq_true rfl) (Nat.le_of_ble_eq_true rfl) dX11_at_43
abbrev rm_s_X11_isOf : Room := { frames := 1, cells := 0, slots := 0, locals := 22 }
set_option maxRecDepth 100000 in
set_option maxHeartbeats 4000000 in
theorem s_X11_isOf (l : Launch) (D : va_G) (G : Nat → Nat) (b0 : Nat) (τ : Nat → Nat) (f : hM) (t : TI G 9 τ f) (u0 : Nat) (hu0 : τ u0 = 60) (u1 : Int32) (hu1 : iv u1 (-2147483648) 2147483647) (u2 : Int32) (hu2 : iv u2 0 7) (u3 : Int32) (hu3 : iv u3 (-2147483648) 2147483647) (u4 : Int32) (hu4 : iv u4 (-2147483648) 2147483647) : mI l yX11_isOf cX11_isOf 5 (.boolean) rm_s_X11_isOf D G b0 f [.ref u0, .int u1, .int u2, .int u3, .int u4] (fun r f1 => iv r 0 1 ∧ TI G 9 τ f1 ∧ Fr [] τ f f1) := by
  refine met2 (own := RX11) (by decide) rfl (Nat.le_of_ble_eq_true rfl) ?_
  intro p e s m args below meth c ls Q hQ C hr hini hl h
  have hl : lv_has ls 5 [(0, .ref u0), (1, .int u1), (2, .int u2), (3, .int u3), (4, .int u4)] := hl
  obtain ⟨hx, hb, hml, hown, hts, hE0, hlk⟩ := id C
  have o := Fr.rf [] τ f
  refine lv_iload_n hx hb dX11_isOf_0 rfl (lv_at hl 1 rfl) ?_
  rcases sw_0_3 u1 with c1 | c1 | c1 | c1 | c1
  · refine lv_tableIn (tgt := 32) hx hb dX11_isOf_1 (by rw [c1]; decide) (by rw [c1]; decide) (off := 31) (by rw [c1]; rfl) (by decide) ?_
    have i2 : iv u1 0 0 := by rw [c1]; exact iv_k rfl
    refine lv_iconst (v := 1) hx hb dX11_isOf_32 (by decide) ?_
    exact u_zret C h hr hQ ⟨by decide, by decide⟩ (⟨⟨by decide, by decide⟩, t, o⟩) (Nat.le_of_ble_eq_true rfl) (Nat.le_of_ble_eq_true rfl) dX11_isOf_33
  · refine lv_tableIn (tgt := 34) hx hb dX11_isOf_1 (by rw [c1]; decide) (by rw [c1]; decide) (off := 33) (by rw [c1]; rfl) (by decide) ?_
    have i3 : iv u1 1 1 := by rw [c1]; exact iv_k rfl
    refine lv_iload_n hx hb dX11_isOf_34 rfl (lv_at hl 3 rfl) ?_
    refine lv_aload_n hx hb dX11_isOf_35 rfl (lv_at hl 0 rfl) ?_
    refine lv_iload_n hx hb dX11_isOf_36 rfl (lv_at hl 2 rfl) ?_
    refine lv_bipush (v := 8) hx hb dX11_isOf_37 (by decide) ?_
    obtain ⟨_, r6⟩ := t_rec t hu0 (by decide) wf_60
    refine k_i (r_V C h hl (As := [.int u2, .int 8]) (rest := [.int u3]) (s_X11_weightOf l D G b0 τ f t u0 hu0 u2 hu2 8 (iv_w (iv_k (x := 8) (k := 8) rfl) (by decide))) r6 (Cn := RX11) (T := TX11) (N := 32) rfl rfl mk_X11_weightOf w_1631 w_1633 w_52 w_1634 ⟨Nat.le_of_ble_eq_true rfl, Nat.le_of_ble_eq_true rfl⟩ rfl (Nat.le_of_ble_eq_true rfl) ⟨Nat.le_of_ble_eq_true rfl, Nat.le_of_ble_eq_true rfl⟩ rfl dX11_isOf_39) h (fun r7 f8 H locs p9 h => ?_)
    obtain ⟨ir7, tf8, ogf8⟩ := p9
    have egf8 := Fr.nil2 ogf8
    subst egf8
    refine lv_icmp_ne (tgt := 61) hx hb dX11_isOf_42 (by decide) (fun c10 => ?_) (fun c10 => ?_)
    · have c11 : u3.toInt ≠ r7.toInt := fun z_ => c10 (Int32.toInt_inj.mp z_)
      refine lv_iconst (v := 0) hx hb dX11_isOf_61 (by decide) ?_
      exact u_zret C h hr hQ ⟨by decide, by decide⟩ (⟨⟨by decide, by decide⟩, t, o⟩) (Nat.le_of_ble_eq_true rfl) (Nat.le_of_ble_eq_true rfl) dX11_isOf_62
    · have c12 : u3.toInt = r7.toInt := congrArg Int32.toInt c10
      have i13 : iv u3 0 9 := iv_Q c12 hu3 ir7 (by decide)
      refine lv_iload hx hb dX11_isOf_45 (lv_at hl 4 rfl) ?_
      refine lv_aload_n hx hb dX11_isOf_47 rfl (lv_at hl 0 rfl) ?_
      refine lv_iload_n hx hb dX11_isOf_48 rfl (lv_at hl 2 rfl) ?_
      refine lv_bipush (v := 9) hx hb dX11_isOf_49 (by decide) ?_
      obtain ⟨_, r14⟩ := t_rec t hu0 (by decide) wf_60
      refine k_i (r_V C h hl (As := [.int u2, .int 9]) (rest := [.int u4]) (s_X11_weightOf l D G b0 τ f t u0 hu0 u2 hu2 9 (iv_w (iv_k (x := 9) (k := 9) rfl) (by decide))) r14 (Cn := RX11) (T := TX11) (N := 32) rfl rfl mk_X11_weightOf w_1631 w_1633 w_52 w_1634 ⟨Nat.le_of_ble_eq_true rfl, Nat.le_of_ble_eq_true rfl⟩ rfl (Nat.le_of_ble_eq_true rfl) ⟨Nat.le_of_ble_eq_true rfl, Nat.le_of_ble_eq_true rfl⟩ rfl dX11_isOf_51) h (fun r15 f16 H locs p17 h => ?_)
      obtain ⟨ir15, tf16, ogf16⟩ := p17
      have egf16 := Fr.nil2 ogf16
      subst egf16
      refine lv_icmp_ne (tgt := 61) hx hb dX11_isOf_54 (by decide) (fun c18 => ?_) (fun c18 => ?_)
      · have c19 : u4.toInt ≠ r15.toInt := fun z_ => c18 (Int32.toInt_inj.mp z_)
        refine lv_iconst (v := 0) hx hb dX11_isOf_61 (by decide) ?_
        exact u_zret C h hr hQ ⟨by decide, by decide⟩ (⟨⟨by decide, by decide⟩, t, o⟩) (Nat.le_of_ble_eq_true rfl) (Nat.le_of_ble_eq_true rfl) dX11_isOf_62
      · have c20 : u4.toInt = r15.toInt := congrArg Int32.toInt c18
        have i21 : iv u4 0 9 := iv_Q c20 hu4 ir15 (by decide)
        refine lv_iconst (v := 1) hx hb dX11_isOf_57 (by decide) ?_
        refine lv_goto (tgt := 62) hx hb dX11_isOf_58 (by decide) ?_
        exact u_zret C h hr hQ ⟨by decide, by decide⟩ (⟨⟨by decide, by decide⟩, t, o⟩) (Nat.le_of_ble_eq_true rfl) (Nat.le_of_ble_eq_true rfl) dX11_isOf_62
  · refine lv_tableIn (tgt := 63) hx hb dX11_isOf_1 (by rw [c1]; decide) (by rw [c1]; decide) (off := 62) (by rw [c1]; rfl) (by decide) ?_
    have i4 : iv u1 2 2 := by rw [c1]; exact iv_k rfl
    refine lv_iload hx hb dX11_isOf_63 (lv_at hl 4 rfl) ?_
    refine lv_if_ne (tgt := 72) hx hb dX11_isOf_65 (by decide) (fun c22 => ?_) (fun c22 => ?_)
    · have c23 : u4.toInt ≠ 0 := fun z_ => c22 (Int32.toInt_inj.mp z_)
      refine lv_iconst (v := 0) hx hb dX11_isOf_72 (by decide) ?_
      exact u_zret C h hr hQ ⟨by decide, by decide⟩ (⟨⟨by decide, by decide⟩, t, o⟩) (Nat.le_of_ble_eq_true rfl) (Nat.le_of_ble_eq_true rfl) dX11_isOf_73
    · have c24 : u4.toInt = 0 := congrArg Int32.toInt c22
      have i25 : iv u4 0 0 := iv_Q c24 hu4 (iv_k (x := 0) (k := 0) rfl) (by decide)
      refine lv_iconst (v := 1) hx hb dX11_isOf_68 (by decide) ?_
      refine lv_goto (tgt := 73) hx hb dX11_isOf_69 (by decide) ?_
      exact u_zret C h hr hQ ⟨by decide, by decide⟩ (⟨⟨by decide, by decide⟩, t, o⟩) (Nat.le_of_ble_eq_true rfl) (Nat.le_of_ble_eq_true rfl) dX11_isOf_73
  · refine lv_tableIn (tgt := 74) hx hb dX11_isOf_1 (by rw [c1]; decide) (by rw [c1]; decide) (off := 73) (by rw [c1]; rfl) (by decide) ?_
    have i5 : iv u1 3 3 := by rw [c1]; exact iv_k rfl
    refine lv_iload_n hx hb dX11_isOf_74 rfl (lv_at hl 3 rfl) ?_
    refine lv_if_ne (tgt := 82) hx hb dX11_isOf_75 (by decide) (fun c26 => ?_) (fun c26 => ?_)
    · have c27 : u3.toInt ≠ 0 := fun z_ => c26 (Int32.toInt_inj.mp z_)
      refine lv_iconst (v := 0) hx hb dX11_isOf_82 (by decide) ?_
      exact u_zret C h hr hQ ⟨by decide, by decide⟩ (⟨⟨by decide, by decide⟩, t, o⟩) (Nat.le_of_ble_eq_true rfl) (Nat.le_of_ble_eq_true rfl) dX11_isOf_83
    · have c28 : u3.toInt = 0 := congrArg Int32.toInt c26
      have i29 : iv u3 0 0 := iv_Q c28 hu3 (iv_k (x := 0) (k := 0) rfl) (by decide)
      refine lv_iconst (v := 1) hx hb dX11_isOf_78 (by decide) ?_
      refine lv_goto (tgt := 83) hx hb dX11_isOf_79 (by decide) ?_
      exact u_zret C h hr hQ ⟨by decide, by decide⟩ (⟨⟨by decide, by decide⟩, t, o⟩) (Nat.le_of_ble_eq_true rfl) (Nat.le_of_ble_eq_true rfl) dX11_isOf_83
  · refine lv_tableOut (tgt := 84) hx hb dX11_isOf_1 c1 (by decide) ?_
    refine lv_iload_n hx hb dX11_isOf_84 rfl (lv_at hl 3 rfl) ?_
    refine lv_iload hx hb dX11_isOf_85 (lv_at hl 4 rfl) ?_
    refine lv_icmp_ne (tgt := 94) hx hb dX11_isOf_87 (by decide) (fun c30 => ?_) (fun c30 => ?_)
    · have c31 : u3.toInt ≠ u4.toInt := fun z_ => c30 (Int32.toInt_inj.mp z_)
      refine lv_iconst (v := 0) hx hb dX11_isOf_94 (by decide) ?_
      exact u_zret C h hr hQ ⟨by decide, by decide⟩ (⟨⟨by decide, by decide⟩, t, o⟩) (Nat.le_of_ble_eq_true rfl) (Nat.le_of_ble_eq_true rfl) dX11_isOf_95
    · have c32 : u3.toInt = u4.toInt := congrArg Int32.toInt c30
      refine lv_iconst (v := 1) hx hb dX11_isOf_90 (by decide) ?_
      refine lv_goto (tgt := 95) hx hb dX11_isOf_91 (by decide) ?_
      exact u_zret C h hr hQ ⟨by decide, by decide⟩ (⟨⟨by decide, by decide⟩, t, o⟩) (Nat.le_of_ble_eq_true rfl) (Nat.le_of_ble_eq_true rfl) dX11_isOf_95
abbrev rm_s_X11_sumOf : Room := { frames := 2, cells := 0, slots := 0, locals := 46 }
set_option maxRecDepth 100000 in
set_option maxHeartbeats 4000000 in
theorem s_X11_sumOf (l : Launch) (D : va_G) (G : Nat → Nat) (b0 : Nat) (τ : Nat → Nat) (f : hM) (t : TI G 9 τ f) (u0 : Nat) (hu0 : τ u0 = 60) (u1 : Int32) (hu1 : iv u1 0 7) (u2 : Int32) (hu2 : iv u2 (-2147483648) 2147483647) (gn : Int32) (hgn : iv gn 0 60) (k_u0_14 : atp f u0 (fd 14 (.int gn))) : mI l yX11_sumOf cX11_sumOf 9 (.int) rm_s_X11_sumOf D G b0 f [.ref u0, .int u1, .int u2] (fun r f1 => iv r (-1000002) 1000002 ∧ TI G 9 τ f1 ∧ Fr [] τ f f1) := by
  refine met2 (own := RX11) (by decide) rfl (Nat.le_of_ble_eq_true rfl) ?_
  intro p e s m args below meth c ls Q hQ C hr hini hl h
  have hl : lv_has ls 9 [(0, .ref u0), (1, .int u1), (2, .int u2)] := hl
  obtain ⟨hx, hb, hml, hown, hts, hE0, hlk⟩ := id C
  have o := Fr.rf [] τ f
  have L29 : ∀ (n29 : Nat) (ls : Array Slot) (f_29 : hM) (H : Heap) (locs : List Loc) (v29_3 : Int64) (v29_5 : Int32) (v29_6 : Int32) (v29_7 : Int32), 70 - v29_7.toInt < (n29 : Int) → lv_has ls 9 [(0, .ref u0), (1, .int u1), (2, .int u2), (3, .long v29_3), (5, .int v29_5), (6, .int v29_6), (7, .int v29_7)] → hw D b0 s.heap f_29 H locs → TI G 9 τ f_29 → Fr [] τ f f_29 → iv v29_5 0 9 → iv v29_6 0 9 → iv v29_7 (-60) 70 → atp f_29 u0 (fd 14 (.int gn)) → W p l e rm_s_X11_sumOf s m args below meth c H locs 0 0 Q (F0 m 29 ls []) := by
    intro n29
    induction n29 with
    | zero => intro ls f_29 H locs v29_3 v29_5 v29_6 v29_7 hm29 hl h t_29 o_29 iv29_5 iv29_6 iv29_7 k29_u0_14; exact absurd hm29 (by omega)
    | succ n29 ih29 =>
      intro ls f_29 H locs v29_3 v29_5 v29_6 v29_7 hm29 hl h t_29 o_29 iv29_5 iv29_6 iv29_7 k29_u0_14
      have L50 : ∀ (n50 : Nat) (ls : Array Slot) (f_50 : hM) (H : Heap) (locs : List Loc) (v50_3 : Int64) (v50_8 : Int32), 70 - v50_8.toInt < (n50 : Int) → lv_has ls 9 [(0, .ref u0), (1, .int u1), (2, .int u2), (3, .long v50_3), (5, .int v29_5), (6, .int v29_6), (7, .int v29_7), (8, .int v50_8)] → hw D b0 s.heap f_50 H locs → TI G 9 τ f_50 → Fr [] τ f f_50 → iv v29_7 (-60) 69 → iv v50_8 (-60) 70 → atp f_50 u0 (fd 14 (.int gn)) → W p l e rm_s_X11_sumOf s m args below meth c H locs 0 0 Q (F0 m 50 ls []) := by
        intro n50
        induction n50 with
        | zero => intro ls f_50 H locs v50_3 v50_8 hm50 hl h t_50 o_50 jv50_7 iv50_8 k50_u0_14; exact absurd hm50 (by omega)
        | succ n50 ih50 =>
          intro ls f_50 H locs v50_3 v50_8 hm50 hl h t_50 o_50 jv50_7 iv50_8 k50_u0_14
          refine lv_iload hx hb dX11_sumOf_50 (lv_at hl 7 rfl) ?_
          refine lv_iload hx hb dX11_sumOf_52 (lv_at hl 5 rfl) ?_
          refine lv_aload_n hx hb dX11_sumOf_54 rfl (lv_at hl 0 rfl) ?_
          refine t_getfd C h t_50 hu0 (by decide) wf_60 (v := .int gn) k50_u0_14 fl_X11_209 dX11_sumOf_55 ?_
          refine i_add hx hb dX11_sumOf_58 iv29_6 hgn (lo := 0) (hi := 69) (by decide) (fun z1 ez1 mz1 iz1 => ?_)
          refine lv_icmp_gt (tgt := 96) hx hb dX11_sumOf_59 (by decide) (fun c2 => ?_) (fun c2 => ?_)
          · have c3 : z1.toInt < v50_8.toInt := Int32.lt_iff_toInt_lt.mp c2
            have i4 : iv v50_8 1 70 := iv_Lr c3 iz1 iv50_8 (by decide)
            refine i_inc hx hb dX11_sumOf_96 hl (k := 6) rfl jv50_7 rfl (lo := (-59)) (hi := 70) (by decide) (by decide) (lv' := fun v => [(7, .int v), (0, .ref u0), (1, .int u1), (2, .int u2), (3, .long v50_3), (5, .int v29_5), (6, .int v29_6), (8, .int v50_8)]) (fun _ => rfl) (fun z7 ls ez7 mz7 iz7 hl => ?_)
            refine lv_goto (tgt := 29) hx hb dX11_sumOf_99 (by decide) ?_
            exact ih29 ls f_50 H locs v50_3 v29_5 v29_6 z7 (show 70 - z7.toInt < _ by omega) (lv_cons hl 1 rfl (lv_cons hl 2 rfl (lv_cons hl 3 rfl (lv_cons hl 4 rfl (lv_cons hl 5 rfl (lv_cons hl 6 rfl (lv_cons hl 0 rfl (lv_nil hl)))))))) h t_50 o_50 iv29_5 iv29_6 (iv_w iz7 (by decide)) k50_u0_14
          · have c5 : v50_8.toInt ≤ z1.toInt := Int32.le_iff_toInt_le.mp (iv_nlt c2)
            have i6 : iv v50_8 (-60) 69 := iv_El c5 iv50_8 iz1 (by decide)
            refine lv_aload_n hx hb dX11_sumOf_62 rfl (lv_at hl 0 rfl) ?_
            refine lv_iload_n hx hb dX11_sumOf_63 rfl (lv_at hl 2 rfl) ?_
            refine lv_iload_n hx hb dX11_sumOf_64 rfl (lv_at hl 1 rfl) ?_
            refine lv_iload hx hb dX11_sumOf_65 (lv_at hl 6 rfl) ?_
            refine lv_iload hx hb dX11_sumOf_67 (lv_at hl 7 rfl) ?_
            obtain ⟨_, r8⟩ := t_rec t_50 hu0 (by decide) wf_60
            refine k_i (r_V C h hl (As := [.int u2, .int u1, .int v29_7, .int v50_8]) (rest := []) (s_X11_isOf l D G b0 τ f_50 t_50 u0 hu0 u2 hu2 u1 hu1 v29_7 (iv_w jv50_7 (by decide)) v50_8 (iv_w i6 (by decide))) r8 (Cn := RX11) (T := TX11) (N := 32) rfl rfl mk_X11_isOf w_1735 w_1737 w_62 w_1738 ⟨Nat.le_of_ble_eq_true rfl, Nat.le_of_ble_eq_true rfl⟩ rfl (Nat.le_of_ble_eq_true rfl) ⟨Nat.le_of_ble_eq_true rfl, Nat.le_of_ble_eq_true rfl⟩ rfl dX11_sumOf_69) h (fun r9 f10 H locs p11 h => ?_)
            obtain ⟨ir9, tf10, ogf10⟩ := p11
            have egf10 := Fr.nil2 ogf10
            subst egf10
            refine lv_if_eq (tgt := 90) hx hb dX11_sumOf_72 (by decide) (fun c12 => ?_) (fun c12 => ?_)
            · have c13 : r9.toInt = 0 := congrArg Int32.toInt c12
              have i14 : iv r9 0 0 := iv_Q c13 ir9 (iv_k (x := 0) (k := 0) rfl) (by decide)
              refine i_inc hx hb dX11_sumOf_90 hl (k := 7) rfl i6 rfl (lo := (-59)) (hi := 70) (by decide) (by decide) (lv' := fun v => [(8, .int v), (0, .ref u0), (1, .int u1), (2, .int u2), (3, .long v50_3), (5, .int v29_5), (6, .int v29_6), (7, .int v29_7)]) (fun _ => rfl) (fun z17 ls ez17 mz17 iz17 hl => ?_)
              refine lv_goto (tgt := 50) hx hb dX11_sumOf_93 (by decide) ?_
              exact ih50 ls f_50 H locs v50_3 z17 (show 70 - z17.toInt < _ by omega) (lv_cons hl 1 rfl (lv_cons hl 2 rfl (lv_cons hl 3 rfl (lv_cons hl 4 rfl (lv_cons hl 5 rfl (lv_cons hl 6 rfl (lv_cons hl 7 rfl (lv_cons hl 0 rfl (lv_nil hl))))))))) h t_50 o_50 jv50_7 (iv_w iz17 (by decide)) k50_u0_14
            · have c15 : r9.toInt ≠ 0 := fun z_ => c12 (Int32.toInt_inj.mp z_)
              have i16 : iv r9 1 1 := iv_Nl c15 ir9 (by decide)
              refine lv_lload_n hx hb dX11_sumOf_75 rfl (lv_at hl 3 rfl) ?_
              refine lv_aload_n hx hb dX11_sumOf_76 rfl (lv_at hl 0 rfl) ?_
              refine t_getr (tq := 67) C h t_50 hu0 (by decide) wf_60 rfl fl_X11_29 dX11_sumOf_77 (fun q18 tq18 => ?_)
              refine lv_iload hx hb dX11_sumOf_80 (lv_at hl 6 rfl) ?_
              refine lv_iload hx hb dX11_sumOf_82 (lv_at hl 7 rfl) ?_
              refine k_i (r_S C h hl (As := [.int v29_7, .int v50_8]) (rest := [.ref q18, .long v50_3]) (s_X11_cell l D G b0 τ f_50 t_50 v29_7 (iv_w jv50_7 (by decide)) v50_8 (iv_w i6 (by decide))) mk_X11_cell w_1706 w_1707 w_1708 ⟨Nat.le_of_ble_eq_true rfl, Nat.le_of_ble_eq_true rfl⟩ rfl (Nat.le_of_ble_eq_true rfl) ⟨Nat.le_of_ble_eq_true rfl, Nat.le_of_ble_eq_true rfl⟩ rfl dX11_sumOf_84) h (fun r19 f20 H locs p21 h => ?_)
              obtain ⟨ir19, tf20, ogf20, x0r19⟩ := p21
              have egf20 := Fr.nil2 ogf20
              subst egf20
              refine t_lald C h t_50 tq18 (by decide) wf_67 (iv_in ir19 (by decide)) dX11_sumOf_87 (fun w22 => ?_)
              refine lv_ladd hx hb dX11_sumOf_88 (lv_topl (fun w23 ew23 => ?_))
              refine lv_lstore_n (lv' := [(3, .long w23), (0, .ref u0), (1, .int u1), (2, .int u2), (5, .int v29_5), (6, .int v29_6), (7, .int v29_7), (8, .int v50_8)]) hx hb dX11_sumOf_89 rfl hl (by decide) rfl (fun ls hl => ?_)
              refine i_inc hx hb dX11_sumOf_90 hl (k := 7) rfl i6 rfl (lo := (-59)) (hi := 70) (by decide) (by decide) (lv' := fun v => [(8, .int v), (3, .long w23), (0, .ref u0), (1, .int u1), (2, .int u2), (5, .int v29_5), (6, .int v29_6), (7, .int v29_7)]) (fun _ => rfl) (fun z24 ls ez24 mz24 iz24 hl => ?_)
              refine lv_goto (tgt := 50) hx hb dX11_sumOf_93 (by decide) ?_
              exact ih50 ls f_50 H locs w23 z24 (show 70 - z24.toInt < _ by omega) (lv_cons hl 2 rfl (lv_cons hl 3 rfl (lv_cons hl 4 rfl (lv_cons hl 1 rfl (lv_cons hl 5 rfl (lv_cons hl 6 rfl (lv_cons hl 7 rfl (lv_cons hl 0 rfl (lv_nil hl))))))))) h t_50 o_50 jv50_7 (iv_w iz24 (by decide)) k50_u0_14
      refine lv_iload hx hb dX11_sumOf_29 (lv_at hl 6 rfl) ?_
      refine lv_iload hx hb dX11_sumOf_31 (lv_at hl 4 rfl) ?_
      refine lv_aload_n hx hb dX11_sumOf_33 rfl (lv_at hl 0 rfl) ?_
      refine t_getfd C h t_29 hu0 (by decide) wf_60 (v := .int gn) k29_u0_14 fl_X11_209 dX11_sumOf_34 ?_
      refine i_add hx hb dX11_sumOf_37 iv29_5 hgn (lo := 0) (hi := 69) (by decide) (fun z25 ez25 mz25 iz25 => ?_)
      refine lv_icmp_gt (tgt := 102) hx hb dX11_sumOf_38 (by decide) (fun c26 => ?_) (fun c26 => ?_)
      · have c27 : z25.toInt < v29_7.toInt := Int32.lt_iff_toInt_lt.mp c26
        have i28 : iv v29_7 1 70 := iv_Lr c27 iz25 iv29_7 (by decide)
        refine lv_lload_n hx hb dX11_sumOf_102 rfl (lv_at hl 3 rfl) ?_
        refine lv_ldc2 (v := 1000003) hx hb hown (hts _ w_1719) dX11_sumOf_103 ?_
        refine lv_lrem hx hb dX11_sumOf_106 (by decide) (i_topl (lrem_iv (k := 1000003) rfl (by decide) (lo := -1000002) (hi := 1000002) (by decide)) (fun w31 ew31 iw31 => ?_))
        refine lv_l2i hx hb dX11_sumOf_107 rfl (i_top (iv_l2i iw31 (by decide)) (fun z32 ez32 iz32 => ?_))
        exact u_iret C h hr hQ (⟨iz32, t_29, o_29⟩) (Nat.le_of_ble_eq_true rfl) (Nat.le_of_ble_eq_true rfl) dX11_sumOf_108
      · have c29 : v29_7.toInt ≤ z25.toInt := Int32.le_iff_toInt_le.mp (iv_nlt c26)
        have i30 : iv v29_7 (-60) 69 := iv_El c29 iv29_7 iz25 (by decide)
        refine lv_iload hx hb dX11_sumOf_41 (lv_at hl 5 rfl) ?_
        refine lv_aload_n hx hb dX11_sumOf_43 rfl (lv_at hl 0 rfl) ?_
        refine t_getfd C h t_29 hu0 (by decide) wf_60 (v := .int gn) k29_u0_14 fl_X11_209 dX11_sumOf_44 ?_
        refine i_sub hx hb dX11_sumOf_47 iv29_6 hgn (lo := (-60)) (hi := 9) (by decide) (fun z33 ez33 mz33 iz33 => ?_)
        refine lv_istore (lv' := [(8, .int z33), (0, .ref u0), (1, .int u1), (2, .int u2), (3, .long v29_3), (5, .int v29_5), (6, .int v29_6), (7, .int v29_7)]) hx hb dX11_sumOf_48 hl (by decide) rfl (fun ls hl => ?_)
        exact L50 131 ls f_29 H locs v29_3 z33 (show 70 - z33.toInt < _ by omega) (lv_cons hl 1 rfl (lv_cons hl 2 rfl (lv_cons hl 3 rfl (lv_cons hl 4 rfl (lv_cons hl 5 rfl (lv_cons hl 6 rfl (lv_cons hl 7 rfl (lv_cons hl 0 rfl (lv_nil hl))))))))) h t_29 o_29 i30 (iv_w iz33 (by decide)) k29_u0_14
  refine lv_lconst (v := 0) hx hb dX11_sumOf_0 (by decide) ?_
  refine lv_lstore_n (lv' := [(3, .long 0), (0, .ref u0), (1, .int u1), (2, .int u2)]) hx hb dX11_sumOf_1 rfl hl (by decide) rfl (fun ls hl => ?_)
  refine lv_aload_n hx hb dX11_sumOf_2 rfl (lv_at hl 1 rfl) ?_
  refine lv_iload_n hx hb dX11_sumOf_3 rfl (lv_at hl 2 rfl) ?_
  refine lv_bipush (v := 8) hx hb dX11_sumOf_4 (by decide) ?_
  obtain ⟨_, r34⟩ := t_rec t hu0 (by decide) wf_60
  refine k_i (r_V C h hl (As := [.int u1, .int 8]) (rest := []) (s_X11_weightOf l D G b0 τ f t u0 hu0 u1 hu1 8 (iv_w (iv_k (x := 8) (k := 8) rfl) (by decide))) r34 (Cn := RX11) (T := TX11) (N := 32) rfl rfl mk_X11_weightOf w_1631 w_1633 w_52 w_1634 ⟨Nat.le_of_ble_eq_true rfl, Nat.le_of_ble_eq_true rfl⟩ rfl (Nat.le_of_ble_eq_true rfl) ⟨Nat.le_of_ble_eq_true rfl, Nat.le_of_ble_eq_true rfl⟩ rfl dX11_sumOf_6) h (fun r35 f36 H locs p37 h => ?_)
  obtain ⟨ir35, tf36, ogf36⟩ := p37
  have egf36 := Fr.nil2 ogf36
  subst egf36
  refine lv_istore (lv' := [(5, .int r35), (3, .long 0), (0, .ref u0), (1, .int u1), (2, .int u2)]) hx hb dX11_sumOf_9 hl (by decide) rfl (fun ls hl => ?_)
  refine lv_aload_n hx hb dX11_sumOf_11 rfl (lv_at hl 2 rfl) ?_
  refine lv_iload_n hx hb dX11_sumOf_12 rfl (lv_at hl 3 rfl) ?_
  refine lv_bipush (v := 9) hx hb dX11_sumOf_13 (by decide) ?_
  obtain ⟨_, r38⟩ := t_rec t hu0 (by decide) wf_60
  refine k_i (r_V C h hl (As := [.int u1, .int 9]) (rest := []) (s_X11_weightOf l D G b0 τ f t u0 hu0 u1 hu1 9 (iv_w (iv_k (x := 9) (k := 9) rfl) (by decide))) r38 (Cn := RX11) (T := TX11) (N := 32) rfl rfl mk_X11_weightOf w_1631 w_1633 w_52 w_1634 ⟨Nat.le_of_ble_eq_true rfl, Nat.le_of_ble_eq_true rfl⟩ rfl (Nat.le_of_ble_eq_true rfl) ⟨Nat.le_of_ble_eq_true rfl, Nat.le_of_ble_eq_true rfl⟩ rfl dX11_sumOf_15) h (fun r39 f40 H locs p41 h => ?_)
  obtain ⟨ir39, tf40, ogf40⟩ := p41
  have egf40 := Fr.nil2 ogf40
  subst egf40
  refine lv_istore (lv' := [(6, .int r39), (5, .int r35), (3, .long 0), (0, .ref u0), (1, .int u1), (2, .int u2)]) hx hb dX11_sumOf_18 hl (by decide) rfl (fun ls hl => ?_)
  refine lv_iload hx hb dX11_sumOf_20 (lv_at hl 1 rfl) ?_
  refine lv_aload_n hx hb dX11_sumOf_22 rfl (lv_at hl 3 rfl) ?_
  refine t_getfd C h t hu0 (by decide) wf_60 (v := .int gn) k_u0_14 fl_X11_209 dX11_sumOf_23 ?_
  refine i_sub hx hb dX11_sumOf_26 ir35 hgn (lo := (-60)) (hi := 9) (by decide) (fun z42 ez42 mz42 iz42 => ?_)
  refine lv_istore (lv' := [(7, .int z42), (6, .int r39), (5, .int r35), (3, .long 0), (0, .ref u0), (1, .int u1), (2, .int u2)]) hx hb dX11_sumOf_27 hl (by decide) rfl (fun ls hl => ?_)
  exact L29 131 ls f H locs 0 r35 r39 z42 (show 70 - z42.toInt < _ by omega) (lv_cons hl 4 rfl (lv_cons hl 5 rfl (lv_cons hl 6 rfl (lv_cons hl 3 rfl (lv_cons hl 2 rfl (lv_cons hl 1 rfl (lv_cons hl 0 rfl (lv_nil hl)))))))) h t o ir35 ir39 (iv_w iz42 (by decide)) k_u0_14
abbrev rm_s_X11_laysTerms : Room := { frames := 3, cells := 0, slots := 0, locals := 74 }
set_option maxRecDepth 100000 in
set_option maxHeartbeats 4000000 in
theorem s_X11_laysTerms (l : Launch) (D : va_G) (G : Nat → Nat) (b0 : Nat) (τ : Nat → Nat) (f : hM) (t : TI G 9 τ f) (u0 : Nat) (hu0 : τ u0 = 60) (u1 : Int32) (hu1 : iv u1 0 7) (u2 : Int32) (hu2 : iv u2 (-2147483648) 2147483647) (u3 : Int32) (hu3 : iv u3 (-2147483648) 2147483647) (u4 : Int32) (hu4 : iv u4 0 60) (u5 : Nat) (hu5 : τ u5 = 69) (hNG : NGs τ f u0) : mV l yX11_laysTerms cX11_laysTerms 7 rm_s_X11_laysTerms D G b0 f [.ref u0, .int u1, .int u2, .int u3, .int u4, .ref u5] (fun f1 => TI G 9 τ f1 ∧ Fr [60, 67, 69, 60013, 60014, 60015] τ f f1 ∧ NGs τ f1 u0) := by
  refine met2 (own := RX11) (by decide) rfl (Nat.le_of_ble_eq_true rfl) ?_
  intro p e s m args below meth c ls Q hQ C hr hini hl h
  have hl : lv_has ls 7 [(0, .ref u0), (1, .int u1), (2, .int u2), (3, .int u3), (4, .int u4), (5, .ref u5)] := hl
  obtain ⟨hx, hb, hml, hown, hts, hE0, hlk⟩ := id C
  have o := Fr.rf [60, 67, 69, 60013, 60014, 60015] τ f
  have L18 : ∀ (n18 : Nat) (ls : Array Slot) (f_18 : hM) (H : Heap) (locs : List Loc) (v18_6 : Int32) (g18_u0_14 : Int32), 61 - v18_6.toInt < (n18 : Int) → lv_has ls 7 [(0, .ref u0), (1, .int u1), (2, .int u2), (3, .int u3), (4, .int u4), (5, .ref u5), (6, .int v18_6)] → hw D b0 s.heap f_18 H locs → TI G 9 τ f_18 → Fr [60, 67, 69, 60013, 60014, 60015] τ f f_18 → iv v18_6 1 61 → iv g18_u0_14 0 60 → NGs τ f_18 u0 → atp f_18 u0 (fd 14 (.int g18_u0_14)) → g18_u0_14.toInt = v18_6.toInt - 1 → W p l e rm_s_X11_laysTerms s m args below meth c H locs 0 0 Q (F0 m 18 ls []) := by
    intro n18
    induction n18 with
    | zero => intro ls f_18 H locs v18_6 g18_u0_14 hm18 hl h t_18 o_18 iv18_6 ig18_u0_14 k18_u0_NG k18_u0_14 hv18_0; exact absurd hm18 (by omega)
    | succ n18 ih18 =>
      intro ls f_18 H locs v18_6 g18_u0_14 hm18 hl h t_18 o_18 iv18_6 ig18_u0_14 k18_u0_NG k18_u0_14 hv18_0
      refine lv_iload hx hb dX11_laysTerms_18 (lv_at hl 6 rfl) ?_
      refine lv_iload hx hb dX11_laysTerms_20 (lv_at hl 4 rfl) ?_
      refine lv_icmp_gt (tgt := 49) hx hb dX11_laysTerms_22 (by decide) (fun c1 => ?_) (fun c1 => ?_)
      · have c2 : u4.toInt < v18_6.toInt := Int32.lt_iff_toInt_lt.mp c1
        exact u_vret C h hr hQ (⟨t_18, o_18, k18_u0_NG⟩) (Nat.le_of_ble_eq_true rfl) (Nat.le_of_ble_eq_true rfl) dX11_laysTerms_49
      · have c3 : v18_6.toInt ≤ u4.toInt := Int32.le_iff_toInt_le.mp (iv_nlt c1)
        have i4 : iv v18_6 1 60 := iv_El c3 iv18_6 hu4 (by decide)
        have i5 : iv u4 1 60 := iv_Er c3 iv18_6 hu4 (by decide)
        refine lv_aload_n hx hb dX11_laysTerms_25 rfl (lv_at hl 0 rfl) ?_
        refine lv_iload_n hx hb dX11_laysTerms_26 rfl (lv_at hl 1 rfl) ?_
        refine lv_iload_n hx hb dX11_laysTerms_27 rfl (lv_at hl 3 rfl) ?_
        refine lv_iconst (v := 1) hx hb dX11_laysTerms_28 (by decide) ?_
        obtain ⟨_, r6⟩ := t_rec t_18 hu0 (by decide) wf_60
        refine k_v (r_V C h hl (As := [.int u1, .int u3, .int 1]) (rest := []) (s_X11_goes l D G b0 τ f_18 t_18 u0 hu0 u1 hu1 u3 hu3 1 (iv_w (iv_k (x := 1) (k := 1) rfl) (by decide)) g18_u0_14 (show iv g18_u0_14 0 59 from by omega) k18_u0_14 k18_u0_NG) r6 (Cn := RX11) (T := TX11) (N := 32) rfl rfl mk_X11_goes w_1709 w_1711 w_59 w_1712 ⟨Nat.le_of_ble_eq_true rfl, Nat.le_of_ble_eq_true rfl⟩ rfl (Nat.le_of_ble_eq_true rfl) ⟨Nat.le_of_ble_eq_true rfl, Nat.le_of_ble_eq_true rfl⟩ rfl dX11_laysTerms_29) h (fun f8 H locs p9 h => ?_)
        have n10 : (1 : Int32).toInt = 1 := rfl
        obtain ⟨tf8, ogf8, ⟨gg_f8, kpu0_14f8, ipu0_14f8, rpu0_14f8⟩, ngf8⟩ := p9
        have of8 : Fr [60, 67, 69, 60013, 60014, 60015] τ f f8 := Fr.tr o_18 ogf8 (by decide) (by decide)
        refine lv_aload hx hb dX11_laysTerms_32 (lv_at hl 5 rfl) ?_
        refine lv_iload hx hb dX11_laysTerms_34 (lv_at hl 6 rfl) ?_
        refine lv_aload_n hx hb dX11_laysTerms_36 rfl (lv_at hl 0 rfl) ?_
        refine lv_iload_n hx hb dX11_laysTerms_37 rfl (lv_at hl 1 rfl) ?_
        refine lv_iload_n hx hb dX11_laysTerms_38 rfl (lv_at hl 2 rfl) ?_
        obtain ⟨_, r11⟩ := t_rec tf8 hu0 (by decide) wf_60
        refine k_i (r_V C h hl (As := [.int u1, .int u2]) (rest := [.int v18_6, .ref u5]) (s_X11_sumOf l D G b0 τ f8 tf8 u0 hu0 u1 hu1 u2 hu2 gg_f8 (iv_w ipu0_14f8 (by decide)) kpu0_14f8) r11 (Cn := RX11) (T := TX11) (N := 32) rfl rfl mk_X11_sumOf w_1731 w_1733 w_61 w_1734 ⟨Nat.le_of_ble_eq_true rfl, Nat.le_of_ble_eq_true rfl⟩ rfl (Nat.le_of_ble_eq_true rfl) ⟨Nat.le_of_ble_eq_true rfl, Nat.le_of_ble_eq_true rfl⟩ rfl dX11_laysTerms_39) h (fun r12 f13 H locs p14 h => ?_)
        obtain ⟨ir12, tf13, ogf13⟩ := p14
        have egf13 := Fr.nil2 ogf13
        subst egf13
        refine t_iast C h tf8 of8 hu5 (by decide) (by decide) wf_69 fw_69 (iv_in i4 (by decide)) (iv_w ir12 (by decide)) dX11_laysTerms_42 (fun f15 H locs h tf15 of15 hq => ?_)
        have k16 := NGs.tg ngf8 hq hu0 (by decide)
        have k17 := atp.tg kpu0_14f8 hq hu0 (by decide)
        refine i_inc hx hb dX11_laysTerms_43 hl (k := 6) rfl i4 rfl (lo := 2) (hi := 61) (by decide) (by decide) (lv' := fun v => [(6, .int v), (0, .ref u0), (1, .int u1), (2, .int u2), (3, .int u3), (4, .int u4), (5, .ref u5)]) (fun _ => rfl) (fun z18 ls ez18 mz18 iz18 hl => ?_)
        refine lv_goto (tgt := 18) hx hb dX11_laysTerms_46 (by decide) ?_
        exact ih18 ls f15 H locs z18 gg_f8 (show 61 - z18.toInt < _ by omega) (lv_cons hl 1 rfl (lv_cons hl 2 rfl (lv_cons hl 3 rfl (lv_cons hl 4 rfl (lv_cons hl 5 rfl (lv_cons hl 6 rfl (lv_cons hl 0 rfl (lv_nil hl)))))))) h tf15 of15 (iv_w iz18 (by decide)) (iv_w ipu0_14f8 (by decide)) k16 k17 (show gg_f8.toInt = z18.toInt - 1 by omega)
  refine lv_aload_n hx hb dX11_laysTerms_0 rfl (lv_at hl 0 rfl) ?_
  refine lv_iload_n hx hb dX11_laysTerms_1 rfl (lv_at hl 1 rfl) ?_
  obtain ⟨_, r19⟩ := t_rec t hu0 (by decide) wf_60
  refine k_v (r_V C h hl (As := [.int u1]) (rest := []) (s_X11_begins l D G b0 τ f t u0 hu0 u1 hu1) r19 (Cn := RX11) (T := TX11) (N := 32) rfl rfl mk_X11_begins w_1702 w_1704 w_58 w_1705 ⟨Nat.le_of_ble_eq_true rfl, Nat.le_of_ble_eq_true rfl⟩ rfl (Nat.le_of_ble_eq_true rfl) ⟨Nat.le_of_ble_eq_true rfl, Nat.le_of_ble_eq_true rfl⟩ rfl dX11_laysTerms_2) h (fun f21 H locs p22 h => ?_)
  obtain ⟨tf21, ogf21, ⟨gg_f21, kpu0_14f21, ipu0_14f21, rpu0_14f21⟩⟩ := p22
  have of21 : Fr [60, 67, 69, 60013, 60014, 60015] τ f f21 := Fr.tr o ogf21 (by decide) (by decide)
  have k23 := NGs.fr hNG ogf21 hu0 (by decide)
  refine lv_aload hx hb dX11_laysTerms_5 (lv_at hl 5 rfl) ?_
  refine lv_iconst (v := 0) hx hb dX11_laysTerms_7 (by decide) ?_
  refine lv_aload_n hx hb dX11_laysTerms_8 rfl (lv_at hl 0 rfl) ?_
  refine lv_iload_n hx hb dX11_laysTerms_9 rfl (lv_at hl 1 rfl) ?_
  refine lv_iload_n hx hb dX11_laysTerms_10 rfl (lv_at hl 2 rfl) ?_
  obtain ⟨_, r24⟩ := t_rec tf21 hu0 (by decide) wf_60
  refine k_i (r_V C h hl (As := [.int u1, .int u2]) (rest := [.int 0, .ref u5]) (s_X11_sumOf l D G b0 τ f21 tf21 u0 hu0 u1 hu1 u2 hu2 gg_f21 (iv_w ipu0_14f21 (by decide)) kpu0_14f21) r24 (Cn := RX11) (T := TX11) (N := 32) rfl rfl mk_X11_sumOf w_1731 w_1733 w_61 w_1734 ⟨Nat.le_of_ble_eq_true rfl, Nat.le_of_ble_eq_true rfl⟩ rfl (Nat.le_of_ble_eq_true rfl) ⟨Nat.le_of_ble_eq_true rfl, Nat.le_of_ble_eq_true rfl⟩ rfl dX11_laysTerms_11) h (fun r25 f26 H locs p27 h => ?_)
  obtain ⟨ir25, tf26, ogf26⟩ := p27
  have egf26 := Fr.nil2 ogf26
  subst egf26
  refine t_iast C h tf21 of21 hu5 (by decide) (by decide) wf_69 fw_69 (by unfold vp_in; decide) (iv_w ir25 (by decide)) dX11_laysTerms_14 (fun f28 H locs h tf28 of28 hq => ?_)
  have k29 := NGs.tg k23 hq hu0 (by decide)
  have k30 := atp.tg kpu0_14f21 hq hu0 (by decide)
  refine lv_iconst (v := 1) hx hb dX11_laysTerms_15 (by decide) ?_
  refine lv_istore (lv' := [(6, .int 1), (0, .ref u0), (1, .int u1), (2, .int u2), (3, .int u3), (4, .int u4), (5, .ref u5)]) hx hb dX11_laysTerms_16 hl (by decide) rfl (fun ls hl => ?_)
  exact L18 61 ls f28 H locs 1 gg_f21 (by decide) (lv_cons hl 1 rfl (lv_cons hl 2 rfl (lv_cons hl 3 rfl (lv_cons hl 4 rfl (lv_cons hl 5 rfl (lv_cons hl 6 rfl (lv_cons hl 0 rfl (lv_nil hl)))))))) h tf28 of28 ⟨by decide, by decide⟩ (iv_w ipu0_14f21 (by decide)) k29 k30 (show gg_f21.toInt = 1 - 1 by omega)
abbrev rm_s_X11_laysTermso : Room := { frames := 3, cells := 0, slots := 0, locals := 74 }
set_option maxRecDepth 100000 in
set_option maxHeartbeats 4000000 in
theorem s_X11_laysTermso (l : Launch) (D : va_G) (G : Nat → Nat) (b0 : Nat) (τ : Nat → Nat) (f : hM) (t : TI G 9 τ f) (u0 : Nat) (hu0 : τ u0 = 60) (u1 : Int32) (hu1 : iv u1 0 7) (u2 : Int32) (hu2 : iv u2 (-2147483648) 2147483647) (u3 : Int32) (hu3 : iv u3 (-2147483648) 2147483647) (u4 : Int32) (hu4 : iv u4 0 60) (u5 : Nat) (hu5 : τ u5 = 78) (hNG : NGs τ f u0) : mV l yX11_laysTerms cX11_laysTerms 7 rm_s_X11_laysTermso D G b0 f [.ref u0, .int u1, .int u2, .int u3, .int u4, .ref u5] (fun f1 => TI G 9 τ f1 ∧ Fr [60, 67, 78, 60013, 60014, 60015] τ f f1 ∧ NGs τ f1 u0) := by
  refine met2 (own := RX11) (by decide) rfl (Nat.le_of_ble_eq_true rfl) ?_
  intro p e s m args below meth c ls Q hQ C hr hini hl h
  have hl : lv_has ls 7 [(0, .ref u0), (1, .int u1), (2, .int u2), (3, .int u3), (4, .int u4), (5, .ref u5)] := hl
  obtain ⟨hx, hb, hml, hown, hts, hE0, hlk⟩ := id C
  have o := Fr.rf [60, 67, 78, 60013, 60014, 60015] τ f
  have L18 : ∀ (n18 : Nat) (ls : Array Slot) (f_18 : hM) (H : Heap) (locs : List Loc) (v18_6 : Int32) (g18_u0_14 : Int32), 61 - v18_6.toInt < (n18 : Int) → lv_has ls 7 [(0, .ref u0), (1, .int u1), (2, .int u2), (3, .int u3), (4, .int u4), (5, .ref u5), (6, .int v18_6)] → hw D b0 s.heap f_18 H locs → TI G 9 τ f_18 → Fr [60, 67, 78, 60013, 60014, 60015] τ f f_18 → iv v18_6 1 61 → iv g18_u0_14 0 60 → NGs τ f_18 u0 → atp f_18 u0 (fd 14 (.int g18_u0_14)) → g18_u0_14.toInt = v18_6.toInt - 1 → W p l e rm_s_X11_laysTermso s m args below meth c H locs 0 0 Q (F0 m 18 ls []) := by
    intro n18
    induction n18 with
    | zero => intro ls f_18 H locs v18_6 g18_u0_14 hm18 hl h t_18 o_18 iv18_6 ig18_u0_14 k18_u0_NG k18_u0_14 hv18_0; exact absurd hm18 (by omega)
    | succ n18 ih18 =>
      intro ls f_18 H locs v18_6 g18_u0_14 hm18 hl h t_18 o_18 iv18_6 ig18_u0_14 k18_u0_NG k18_u0_14 hv18_0
      refine lv_iload hx hb dX11_laysTerms_18 (lv_at hl 6 rfl) ?_
      refine lv_iload hx hb dX11_laysTerms_20 (lv_at hl 4 rfl) ?_
      refine lv_icmp_gt (tgt := 49) hx hb dX11_laysTerms_22 (by decide) (fun c1 => ?_) (fun c1 => ?_)
      · have c2 : u4.toInt < v18_6.toInt := Int32.lt_iff_toInt_lt.mp c1
        exact u_vret C h hr hQ (⟨t_18, o_18, k18_u0_NG⟩) (Nat.le_of_ble_eq_true rfl) (Nat.le_of_ble_eq_true rfl) dX11_laysTerms_49
      · have c3 : v18_6.toInt ≤ u4.toInt := Int32.le_iff_toInt_le.mp (iv_nlt c1)
        have i4 : iv v18_6 1 60 := iv_El c3 iv18_6 hu4 (by decide)
        have i5 : iv u4 1 60 := iv_Er c3 iv18_6 hu4 (by decide)
        refine lv_aload_n hx hb dX11_laysTerms_25 rfl (lv_at hl 0 rfl) ?_
        refine lv_iload_n hx hb dX11_laysTerms_26 rfl (lv_at hl 1 rfl) ?_
        refine lv_iload_n hx hb dX11_laysTerms_27 rfl (lv_at hl 3 rfl) ?_
        refine lv_iconst (v := 1) hx hb dX11_laysTerms_28 (by decide) ?_
        obtain ⟨_, r6⟩ := t_rec t_18 hu0 (by decide) wf_60
        refine k_v (r_V C h hl (As := [.int u1, .int u3, .int 1]) (rest := []) (s_X11_goes l D G b0 τ f_18 t_18 u0 hu0 u1 hu1 u3 hu3 1 (iv_w (iv_k (x := 1) (k := 1) rfl) (by decide)) g18_u0_14 (show iv g18_u0_14 0 59 from by omega) k18_u0_14 k18_u0_NG) r6 (Cn := RX11) (T := TX11) (N := 32) rfl rfl mk_X11_goes w_1709 w_1711 w_59 w_1712 ⟨Nat.le_of_ble_eq_true rfl, Nat.le_of_ble_eq_true rfl⟩ rfl (Nat.le_of_ble_eq_true rfl) ⟨Nat.le_of_ble_eq_true rfl, Nat.le_of_ble_eq_true rfl⟩ rfl dX11_laysTerms_29) h (fun f8 H locs p9 h => ?_)
        have n10 : (1 : Int32).toInt = 1 := rfl
        obtain ⟨tf8, ogf8, ⟨gg_f8, kpu0_14f8, ipu0_14f8, rpu0_14f8⟩, ngf8⟩ := p9
        have of8 : Fr [60, 67, 78, 60013, 60014, 60015] τ f f8 := Fr.tr o_18 ogf8 (by decide) (by decide)
        refine lv_aload hx hb dX11_laysTerms_32 (lv_at hl 5 rfl) ?_
        refine lv_iload hx hb dX11_laysTerms_34 (lv_at hl 6 rfl) ?_
        refine lv_aload_n hx hb dX11_laysTerms_36 rfl (lv_at hl 0 rfl) ?_
        refine lv_iload_n hx hb dX11_laysTerms_37 rfl (lv_at hl 1 rfl) ?_
        refine lv_iload_n hx hb dX11_laysTerms_38 rfl (lv_at hl 2 rfl) ?_
        obtain ⟨_, r11⟩ := t_rec tf8 hu0 (by decide) wf_60
        refine k_i (r_V C h hl (As := [.int u1, .int u2]) (rest := [.int v18_6, .ref u5]) (s_X11_sumOf l D G b0 τ f8 tf8 u0 hu0 u1 hu1 u2 hu2 gg_f8 (iv_w ipu0_14f8 (by decide)) kpu0_14f8) r11 (Cn := RX11) (T := TX11) (N := 32) rfl rfl mk_X11_sumOf w_1731 w_1733 w_61 w_1734 ⟨Nat.le_of_ble_eq_true rfl, Nat.le_of_ble_eq_true rfl⟩ rfl (Nat.le_of_ble_eq_true rfl) ⟨Nat.le_of_ble_eq_true rfl, Nat.le_of_ble_eq_true rfl⟩ rfl dX11_laysTerms_39) h (fun r12 f13 H locs p14 h => ?_)
        obtain ⟨ir12, tf13, ogf13⟩ := p14
        have egf13 := Fr.nil2 ogf13
        subst egf13
        refine t_iast C h tf8 of8 hu5 (by decide) (by decide) wf_78 fw_78 (iv_in i4 (by decide)) (iv_w ir12 (by decide)) dX11_laysTerms_42 (fun f15 H locs h tf15 of15 hq => ?_)
        have k16 := NGs.tg ngf8 hq hu0 (by decide)
        have k17 := atp.tg kpu0_14f8 hq hu0 (by decide)
        refine i_inc hx hb dX11_laysTerms_43 hl (k := 6) rfl i4 rfl (lo := 2) (hi := 61) (by decide) (by decide) (lv' := fun v => [(6, .int v), (0, .ref u0), (1, .int u1), (2, .int u2), (3, .int u3), (4, .int u4), (5, .ref u5)]) (fun _ => rfl) (fun z18 ls ez18 mz18 iz18 hl => ?_)
        refine lv_goto (tgt := 18) hx hb dX11_laysTerms_46 (by decide) ?_
        exact ih18 ls f15 H locs z18 gg_f8 (show 61 - z18.toInt < _ by omega) (lv_cons hl 1 rfl (lv_cons hl 2 rfl (lv_cons hl 3 rfl (lv_cons hl 4 rfl (lv_cons hl 5 rfl (lv_cons hl 6 rfl (lv_cons hl 0 rfl (lv_nil hl)))))))) h tf15 of15 (iv_w iz18 (by decide)) (iv_w ipu0_14f8 (by decide)) k16 k17 (show gg_f8.toInt = z18.toInt - 1 by omega)
  refine lv_aload_n hx hb dX11_laysTerms_0 rfl (lv_at hl 0 rfl) ?_
  refine lv_iload_n hx hb dX11_laysTerms_1 rfl (lv_at hl 1 rfl) ?_
  obtain ⟨_, r19⟩ := t_rec t hu0 (by decide) wf_60
  refine k_v (r_V C h hl (As := [.int u1]) (rest := []) (s_X11_begins l D G b0 τ f t u0 hu0 u1 hu1) r19 (Cn := RX11) (T := TX11) (N := 32) rfl rfl mk_X11_begins w_1702 w_1704 w_58 w_1705 ⟨Nat.le_of_ble_eq_true rfl, Nat.le_of_ble_eq_true rfl⟩ rfl (Nat.le_of_ble_eq_true rfl) ⟨Nat.le_of_ble_eq_true rfl, Nat.le_of_ble_eq_true rfl⟩ rfl dX11_laysTerms_2) h (fun f21 H locs p22 h => ?_)
  obtain ⟨tf21, ogf21, ⟨gg_f21, kpu0_14f21, ipu0_14f21, rpu0_14f21⟩⟩ := p22
  have of21 : Fr [60, 67, 78, 60013, 60014, 60015] τ f f21 := Fr.tr o ogf21 (by decide) (by decide)
  have k23 := NGs.fr hNG ogf21 hu0 (by decide)
  refine lv_aload hx hb dX11_laysTerms_5 (lv_at hl 5 rfl) ?_
  refine lv_iconst (v := 0) hx hb dX11_laysTerms_7 (by decide) ?_
  refine lv_aload_n hx hb dX11_laysTerms_8 rfl (lv_at hl 0 rfl) ?_
  refine lv_iload_n hx hb dX11_laysTerms_9 rfl (lv_at hl 1 rfl) ?_
  refine lv_iload_n hx hb dX11_laysTerms_10 rfl (lv_at hl 2 rfl) ?_
  obtain ⟨_, r24⟩ := t_rec tf21 hu0 (by decide) wf_60
  refine k_i (r_V C h hl (As := [.int u1, .int u2]) (rest := [.int 0, .ref u5]) (s_X11_sumOf l D G b0 τ f21 tf21 u0 hu0 u1 hu1 u2 hu2 gg_f21 (iv_w ipu0_14f21 (by decide)) kpu0_14f21) r24 (Cn := RX11) (T := TX11) (N := 32) rfl rfl mk_X11_sumOf w_1731 w_1733 w_61 w_1734 ⟨Nat.le_of_ble_eq_true rfl, Nat.le_of_ble_eq_true rfl⟩ rfl (Nat.le_of_ble_eq_true rfl) ⟨Nat.le_of_ble_eq_true rfl, Nat.le_of_ble_eq_true rfl⟩ rfl dX11_laysTerms_11) h (fun r25 f26 H locs p27 h => ?_)
  obtain ⟨ir25, tf26, ogf26⟩ := p27
  have egf26 := Fr.nil2 ogf26
  subst egf26
  refine t_iast C h tf21 of21 hu5 (by decide) (by decide) wf_78 fw_78 (by unfold vp_in; decide) (iv_w ir25 (by decide)) dX11_laysTerms_14 (fun f28 H locs h tf28 of28 hq => ?_)
  have k29 := NGs.tg k23 hq hu0 (by decide)
  have k30 := atp.tg kpu0_14f21 hq hu0 (by decide)
  refine lv_iconst (v := 1) hx hb dX11_laysTerms_15 (by decide) ?_
  refine lv_istore (lv' := [(6, .int 1), (0, .ref u0), (1, .int u1), (2, .int u2), (3, .int u3), (4, .int u4), (5, .ref u5)]) hx hb dX11_laysTerms_16 hl (by decide) rfl (fun ls hl => ?_)
  exact L18 61 ls f28 H locs 1 gg_f21 (by decide) (lv_cons hl 1 rfl (lv_cons hl 2 rfl (lv_cons hl 3 rfl (lv_cons hl 4 rfl (lv_cons hl 5 rfl (lv_cons hl 6 rfl (lv_cons hl 0 rfl (lv_nil hl)))))))) h tf28 of28 ⟨by decide, by decide⟩ (iv_w ipu0_14f21 (by decide)) k29 k30 (show gg_f21.toInt = 1 - 1 by omega)
abbrev rm_s_X11_series : Room := { frames := 3, cells := 0, slots := 0, locals := 83 }
set_option maxRecDepth 100000 in
set_option maxHeartbeats 4000000 in
theorem s_X11_series (l : Launch) (D : va_G) (G : Nat → Nat) (b0 : Nat) (τ : Nat → Nat) (f : hM) (t : TI G 9 τ f) (u0 : Nat) (hu0 : τ u0 = 60) (u1 : Int32) (hu1 : iv u1 (-2147483648) 2147483647) (u2 : Int32) (hu2 : iv u2 (-2147483648) 2147483647) (u3 : Int32) (hu3 : iv u3 (-2147483648) 2147483647) (hNG : NGs τ f u0) : mI l yX11_series cX11_series 4 (.int) rm_s_X11_series D G b0 f [.ref u0, .int u1, .int u2, .int u3] (fun r f1 => iv r (-1000002) 1000002 ∧ TI G 9 τ f1 ∧ Fr [60, 67, 60001, 60013, 60014, 60015] τ f f1 ∧ NGs τ f1 u0) := by
  refine met2 (own := RX11) (by decide) rfl (Nat.le_of_ble_eq_true rfl) ?_
  intro p e s m args below meth c ls Q hQ C hr hini hl h
  have hl : lv_has ls 4 [(0, .ref u0), (1, .int u1), (2, .int u2), (3, .int u3)] := hl
  obtain ⟨hx, hb, hml, hown, hts, hE0, hlk⟩ := id C
  have o := Fr.rf [60, 67, 60001, 60013, 60014, 60015] τ f
  refine lv_aload_n hx hb dX11_series_0 rfl (lv_at hl 0 rfl) ?_
  refine lv_iconst (v := 0) hx hb dX11_series_1 (by decide) ?_
  refine t_put C h t o hu0 (by decide) (by decide) (by decide) wf_60 fw_60 (k := 0) rfl flw_X11_75 (Or.inr ⟨_, _, _, rfl, rfl⟩) (v := .int 0) rfl rfl ⟨_, rfl, ⟨by decide, by decide⟩⟩ dX11_series_2 (fun f1 H locs h tf1 of1 hq ha_ hn_ hk_ => ?_)
  have k2 := NGs.pk hNG hk_ (by decide) (by decide)
  have k3 := ha_
  refine lv_aload_n hx hb dX11_series_5 rfl (lv_at hl 0 rfl) ?_
  refine lv_iload_n hx hb dX11_series_6 rfl (lv_at hl 1 rfl) ?_
  obtain ⟨_, r4⟩ := t_rec tf1 hu0 (by decide) wf_60
  refine k_i (r_V C h hl (As := [.int u1]) (rest := []) (s_X11_isSet l D G b0 τ f1 tf1 u0 hu0 u1 hu1) r4 (Cn := RX11) (T := TX11) (N := 32) rfl rfl mk_X11_isSet w_1620 w_1622 w_51 w_1623 ⟨Nat.le_of_ble_eq_true rfl, Nat.le_of_ble_eq_true rfl⟩ rfl (Nat.le_of_ble_eq_true rfl) ⟨Nat.le_of_ble_eq_true rfl, Nat.le_of_ble_eq_true rfl⟩ rfl dX11_series_7) h (fun r5 f6 H locs p7 h => ?_)
  obtain ⟨ir5, tf6, ogf6, cnr5⟩ := p7
  have egf6 := Fr.nil2 ogf6
  subst egf6
  refine lv_if_eq (tgt := 32) hx hb dX11_series_10 (by decide) (fun c8 => ?_) (fun c8 => ?_)
  · have c9 : r5.toInt = 0 := congrArg Int32.toInt c8
    have i10 : iv r5 0 0 := iv_Q c9 ir5 (iv_k (x := 0) (k := 0) rfl) (by decide)
    refine lv_iconst (v := -1) hx hb dX11_series_32 (by decide) ?_
    exact u_iret C h hr hQ (⟨⟨by decide, by decide⟩, tf1, of1, k2⟩) (Nat.le_of_ble_eq_true rfl) (Nat.le_of_ble_eq_true rfl) dX11_series_33
  · have c11 : r5.toInt ≠ 0 := fun z_ => c8 (Int32.toInt_inj.mp z_)
    have i12 : iv r5 1 1 := iv_Nl c11 ir5 (by decide)
    have i13 := cnr5 c11
    refine lv_iload_n hx hb dX11_series_13 rfl (lv_at hl 2 rfl) ?_
    refine lv_i2l hx hb dX11_series_14 rfl (i_topL hu2 (fun w14 ew14 mw14 iw14 => ?_))
    refine lv_lconst (v := 0) hx hb dX11_series_15 (by decide) ?_
    refine lv_ldc2 (v := 4) hx hb hown (hts _ w_1730) dX11_series_16 ?_
    refine k_i (r_S C h hl (As := [.long w14, .long 0, .long 4]) (rest := []) (s_X11_isIn l D G b0 τ f1 tf1 w14 0 4) mk_X11_isIn w_1624 w_1625 w_1626 ⟨Nat.le_of_ble_eq_true rfl, Nat.le_of_ble_eq_true rfl⟩ rfl (Nat.le_of_ble_eq_true rfl) ⟨Nat.le_of_ble_eq_true rfl, Nat.le_of_ble_eq_true rfl⟩ rfl dX11_series_19) h (fun r15 f16 H locs p17 h => ?_)
    have n18 : (0 : Int64).toInt = 0 := rfl
    have n19 : (4 : Int64).toInt = 4 := rfl
    obtain ⟨ir15, tf16, ogf16, cnr15⟩ := p17
    have egf16 := Fr.nil2 ogf16
    subst egf16
    refine lv_if_eq (tgt := 32) hx hb dX11_series_22 (by decide) (fun c20 => ?_) (fun c20 => ?_)
    · have c21 : r15.toInt = 0 := congrArg Int32.toInt c20
      have i22 : iv r15 0 0 := iv_Q c21 ir15 (iv_k (x := 0) (k := 0) rfl) (by decide)
      refine lv_iconst (v := -1) hx hb dX11_series_32 (by decide) ?_
      exact u_iret C h hr hQ (⟨⟨by decide, by decide⟩, tf1, of1, k2⟩) (Nat.le_of_ble_eq_true rfl) (Nat.le_of_ble_eq_true rfl) dX11_series_33
    · have c23 : r15.toInt ≠ 0 := fun z_ => c20 (Int32.toInt_inj.mp z_)
      have i24 : iv r15 1 1 := iv_Nl c23 ir15 (by decide)
      obtain ⟨i25, i26⟩ := cnr15 c23
      have i27 : iv u2 0 4 := ⟨by omega, by omega⟩
      refine lv_iload_n hx hb dX11_series_25 rfl (lv_at hl 3 rfl) ?_
      refine k_i (r_S C h hl (As := [.int u3]) (rest := []) (s_X11_isLong l D G b0 τ f1 tf1 u3 hu3) mk_X11_isLong w_1689 w_1690 w_1691 ⟨Nat.le_of_ble_eq_true rfl, Nat.le_of_ble_eq_true rfl⟩ rfl (Nat.le_of_ble_eq_true rfl) ⟨Nat.le_of_ble_eq_true rfl, Nat.le_of_ble_eq_true rfl⟩ rfl dX11_series_26) h (fun r28 f29 H locs p30 h => ?_)
      obtain ⟨ir28, tf29, ogf29, cnr28⟩ := p30
      have egf29 := Fr.nil2 ogf29
      subst egf29
      refine lv_if_ne (tgt := 34) hx hb dX11_series_29 (by decide) (fun c31 => ?_) (fun c31 => ?_)
      · have c32 : r28.toInt ≠ 0 := fun z_ => c31 (Int32.toInt_inj.mp z_)
        have i33 : iv r28 1 1 := iv_Nl c32 ir28 (by decide)
        have i34 := cnr28 c32
        refine lv_aload_n hx hb dX11_series_34 rfl (lv_at hl 0 rfl) ?_
        refine lv_iload_n hx hb dX11_series_35 rfl (lv_at hl 1 rfl) ?_
        refine lv_iconst (v := 0) hx hb dX11_series_36 (by decide) ?_
        refine lv_iconst (v := 1) hx hb dX11_series_37 (by decide) ?_
        refine lv_iload_n hx hb dX11_series_38 rfl (lv_at hl 3 rfl) ?_
        obtain ⟨_, r37⟩ := t_rec tf1 hu0 (by decide) wf_60
        refine k_v (r_V C h hl (As := [.int u1, .int 0, .int 1, .int u3]) (rest := []) (s_X11_goesOn l D G b0 τ f1 tf1 u0 hu0 u1 i13 0 (iv_w (iv_k (x := 0) (k := 0) rfl) (by decide)) 1 (iv_w (iv_k (x := 1) (k := 1) rfl) (by decide)) u3 i34 k2) r37 (Cn := RX11) (T := TX11) (N := 32) rfl rfl mk_X11_goesOn w_1698 w_1700 w_57 w_1701 ⟨Nat.le_of_ble_eq_true rfl, Nat.le_of_ble_eq_true rfl⟩ rfl (Nat.le_of_ble_eq_true rfl) ⟨Nat.le_of_ble_eq_true rfl, Nat.le_of_ble_eq_true rfl⟩ rfl dX11_series_39) h (fun f39 H locs p40 h => ?_)
        have n41 : (0 : Int32).toInt = 0 := rfl
        have n42 : (1 : Int32).toInt = 1 := rfl
        obtain ⟨tf39, ogf39, ⟨gg_f39, kpu0_14f39, ipu0_14f39, rpu0_14f39⟩, ngf39⟩ := p40
        have of39 : Fr [60, 67, 60001, 60013, 60014, 60015] τ f f39 := Fr.tr of1 ogf39 (by decide) (by decide)
        refine lv_aload_n hx hb dX11_series_42 rfl (lv_at hl 0 rfl) ?_
        refine lv_iload_n hx hb dX11_series_43 rfl (lv_at hl 1 rfl) ?_
        refine lv_iload_n hx hb dX11_series_44 rfl (lv_at hl 2 rfl) ?_
        obtain ⟨_, r43⟩ := t_rec tf39 hu0 (by decide) wf_60
        refine k_i (r_V C h hl (As := [.int u1, .int u2]) (rest := []) (s_X11_sumOf l D G b0 τ f39 tf39 u0 hu0 u1 i13 u2 (iv_w i27 (by decide)) gg_f39 ipu0_14f39 kpu0_14f39) r43 (Cn := RX11) (T := TX11) (N := 32) rfl rfl mk_X11_sumOf w_1731 w_1733 w_61 w_1734 ⟨Nat.le_of_ble_eq_true rfl, Nat.le_of_ble_eq_true rfl⟩ rfl (Nat.le_of_ble_eq_true rfl) ⟨Nat.le_of_ble_eq_true rfl, Nat.le_of_ble_eq_true rfl⟩ rfl dX11_series_45) h (fun r44 f45 H locs p46 h => ?_)
        obtain ⟨ir44, tf45, ogf45⟩ := p46
        have egf45 := Fr.nil2 ogf45
        subst egf45
        exact u_iret C h hr hQ (⟨ir44, tf39, of39, ngf39⟩) (Nat.le_of_ble_eq_true rfl) (Nat.le_of_ble_eq_true rfl) dX11_series_48
      · have c35 : r28.toInt = 0 := congrArg Int32.toInt c31
        have i36 : iv r28 0 0 := iv_Q c35 ir28 (iv_k (x := 0) (k := 0) rfl) (by decide)
        refine lv_iconst (v := -1) hx hb dX11_series_32 (by decide) ?_
        exact u_iret C h hr hQ (⟨⟨by decide, by decide⟩, tf1, of1, k2⟩) (Nat.le_of_ble_eq_true rfl) (Nat.le_of_ble_eq_true rfl) dX11_series_33
abbrev rm_s_X11_power : Room := { frames := 0, cells := 0, slots := 0, locals := 0 }
set_option maxRecDepth 100000 in
set_option maxHeartbeats 4000000 in
theorem s_X11_power (l : Launch) (D : va_G) (G : Nat → Nat) (b0 : Nat) (τ : Nat → Nat) (f : hM) (t : TI G 9 τ f) (u0 : Int64) (u1 : Int32) (hu1 : iv u1 (-2147483648) 2147483647) : mL l yX11_power cX11_power 6 rm_s_X11_power D G b0 f [.long u0, .int u1] (fun r f1 => ivl r (-1000002) 1000002 ∧ TI G 9 τ f1 ∧ Fr [] τ f f1) := by
  refine met2 (own := RX11) (by decide) rfl (Nat.le_of_ble_eq_true rfl) ?_
  intro p e s m args below meth c ls Q hQ C hr hini hl h
  have hl : lv_has ls 6 [(0, .long u0), (2, .int u1)] := hl
  obtain ⟨hx, hb, hml, hown, hts, hE0, hlk⟩ := id C
  have o := Fr.rf [] τ f
  have L5 : ∀ (n5 : Nat) (ls : Array Slot) (f_5 : hM) (H : Heap) (locs : List Loc) (v5_3 : Int64) (v5_5 : Int32), 2147483647 - v5_5.toInt < (n5 : Int) → lv_has ls 6 [(0, .long u0), (2, .int u1), (3, .long v5_3), (5, .int v5_5)] → hw D b0 s.heap f_5 H locs → TI G 9 τ f_5 → Fr [] τ f f_5 → ivl v5_3 (-1000002) 1000002 → iv v5_5 0 2147483647 → W p l e rm_s_X11_power s m args below meth c H locs 0 0 Q (F0 m 5 ls []) := by
    intro n5
    induction n5 with
    | zero => intro ls f_5 H locs v5_3 v5_5 hm5 hl h t_5 o_5 iv5_3 iv5_5; exact absurd hm5 (by omega)
    | succ n5 ih5 =>
      intro ls f_5 H locs v5_3 v5_5 hm5 hl h t_5 o_5 iv5_3 iv5_5
      refine lv_iload hx hb dX11_power_5 (lv_at hl 3 rfl) ?_
      refine lv_iload_n hx hb dX11_power_7 rfl (lv_at hl 1 rfl) ?_
      refine lv_icmp_ge (tgt := 25) hx hb dX11_power_8 (by decide) (fun c1 => ?_) (fun c1 => ?_)
      · have c2 : u1.toInt ≤ v5_5.toInt := Int32.le_iff_toInt_le.mp c1
        refine lv_lload_n hx hb dX11_power_25 rfl (lv_at hl 2 rfl) ?_
        exact u_lret C h hr hQ (⟨(ivl_w iv5_3 (by decide)), t_5, o_5⟩) (Nat.le_of_ble_eq_true rfl) (Nat.le_of_ble_eq_true rfl) dX11_power_26
      · have c3 : v5_5.toInt < u1.toInt := Int32.lt_iff_toInt_lt.mp (iv_nle c1)
        have i4 : iv v5_5 0 2147483646 := iv_Ll c3 iv5_5 hu1 (by decide)
        have i5 : iv u1 1 2147483647 := iv_Lr c3 iv5_5 hu1 (by decide)
        refine lv_lload_n hx hb dX11_power_11 rfl (lv_at hl 2 rfl) ?_
        refine lv_lload_n hx hb dX11_power_12 rfl (lv_at hl 0 rfl) ?_
        refine lv_lmul hx hb dX11_power_13 (lv_topl (fun w6 ew6 => ?_))
        refine lv_ldc2 (v := 1000003) hx hb hown (hts _ w_1719) dX11_power_14 ?_
        refine lv_lrem hx hb dX11_power_17 (by decide) (i_topl (lrem_iv (k := 1000003) rfl (by decide) (lo := -1000002) (hi := 1000002) (by decide)) (fun w7 ew7 iw7 => ?_))
        refine lv_lstore_n (lv' := [(3, .long w7), (0, .long u0), (2, .int u1), (5, .int v5_5)]) hx hb dX11_power_18 rfl hl (by decide) rfl (fun ls hl => ?_)
        refine i_inc hx hb dX11_power_19 hl (k := 3) rfl i4 rfl (lo := 1) (hi := 2147483647) (by decide) (by decide) (lv' := fun v => [(5, .int v), (3, .long w7), (0, .long u0), (2, .int u1)]) (fun _ => rfl) (fun z8 ls ez8 mz8 iz8 hl => ?_)
        refine lv_goto (tgt := 5) hx hb dX11_power_22 (by decide) ?_
        exact ih5 ls f_5 H locs w7 z8 (show 2147483647 - z8.toInt < _ by omega) (lv_cons hl 2 rfl (lv_cons hl 3 rfl (lv_cons hl 1 rfl (lv_cons hl 0 rfl (lv_nil hl))))) h t_5 o_5 (ivl_w iw7 (by decide)) (iv_w iz8 (by decide))
  refine lv_lconst (v := 1) hx hb dX11_power_0 (by decide) ?_
  refine lv_lstore_n (lv' := [(3, .long 1), (0, .long u0), (2, .int u1)]) hx hb dX11_power_1 rfl hl (by decide) rfl (fun ls hl => ?_)
  refine lv_iconst (v := 0) hx hb dX11_power_2 (by decide) ?_
  refine lv_istore (lv' := [(5, .int 0), (3, .long 1), (0, .long u0), (2, .int u1)]) hx hb dX11_power_3 hl (by decide) rfl (fun ls hl => ?_)
  exact L5 2147483648 ls f s.heap [] 1 0 (by decide) (lv_cons hl 2 rfl (lv_cons hl 3 rfl (lv_cons hl 1 rfl (lv_cons hl 0 rfl (lv_nil hl))))) h t o (ivl_w (ivl_k (x := 1) (k := 1) rfl) (by decide)) ⟨by decide, by decide⟩
abbrev rm_s_X11_power2 : Room := { frames := 0, cells := 0, slots := 0, locals := 0 }
set_option maxRecDepth 100000 in
set_option maxHeartbeats 4000000 in
theorem s_X11_power2 (l : Launch) (D : va_G) (G : Nat → Nat) (b0 : Nat) (τ : Nat → Nat) (f : hM) (t : TI G 9 τ f) (u0 : Int64) (u1 : Int32) (hu1 : iv u1 0 2147483647) : mL l yX11_power2 cX11_power2 8 rm_s_X11_power2 D G b0 f [.long u0, .int u1] (fun r f1 => ivl r (-1000002) 1000002 ∧ TI G 9 τ f1 ∧ Fr [] τ f f1) := by
  refine met2 (own := RX11) (by decide) rfl (Nat.le_of_ble_eq_true rfl) ?_
  intro p e s m args below meth c ls Q hQ C hr hini hl h
  have hl : lv_has ls 8 [(0, .long u0), (2, .int u1)] := hl
  obtain ⟨hx, hb, hml, hown, hts, hE0, hlk⟩ := id C
  have o := Fr.rf [] τ f
  have L8 : ∀ (n8 : Nat) (ls : Array Slot) (f_8 : hM) (H : Heap) (locs : List Loc) (v8_3 : Int64) (v8_5 : Int64) (v8_7 : Int32), v8_7.toInt < (n8 : Int) → lv_has ls 8 [(3, .long v8_3), (5, .long v8_5), (7, .int v8_7)] → hw D b0 s.heap f_8 H locs → TI G 9 τ f_8 → Fr [] τ f f_8 → ivl v8_3 (-1000002) 1000002 → iv v8_7 0 2147483647 → W p l e rm_s_X11_power2 s m args below meth c H locs 0 0 Q (F0 m 8 ls []) := by
    intro n8
    induction n8 with
    | zero => intro ls f_8 H locs v8_3 v8_5 v8_7 hm8 hl h t_8 o_8 iv8_3 iv8_7; exact absurd hm8 (by omega)
    | succ n8 ih8 =>
      intro ls f_8 H locs v8_3 v8_5 v8_7 hm8 hl h t_8 o_8 iv8_3 iv8_7
      refine lv_iload hx hb dX11_power2_8 (lv_at hl 2 rfl) ?_
      refine lv_if_le (tgt := 50) hx hb dX11_power2_10 (by decide) (fun c1 => ?_) (fun c1 => ?_)
      · have c2 : v8_7.toInt ≤ 0 := Int32.le_iff_toInt_le.mp c1
        have i3 : iv v8_7 0 0 := iv_El c2 iv8_7 (iv_k (x := 0) (k := 0) rfl) (by decide)
        refine lv_lload_n hx hb dX11_power2_50 rfl (lv_at hl 0 rfl) ?_
        exact u_lret C h hr hQ (⟨(ivl_w iv8_3 (by decide)), t_8, o_8⟩) (Nat.le_of_ble_eq_true rfl) (Nat.le_of_ble_eq_true rfl) dX11_power2_51
      · have c4 : 0 < v8_7.toInt := Int32.lt_iff_toInt_lt.mp (iv_nle c1)
        have i5 : iv v8_7 1 2147483647 := iv_Lr c4 (iv_k (x := 0) (k := 0) rfl) iv8_7 (by decide)
        refine lv_iload hx hb dX11_power2_13 (lv_at hl 2 rfl) ?_
        refine lv_iconst (v := 1) hx hb dX11_power2_15 (by decide) ?_
        refine lv_iand hx hb dX11_power2_16 (i_top (iv_and (k := 1) rfl (by decide)) (fun z6 ez6 iz6 => ?_))
        refine lv_iconst (v := 1) hx hb dX11_power2_17 (by decide) ?_
        refine lv_icmp_ne (tgt := 30) hx hb dX11_power2_18 (by decide) (fun c7 => ?_) (fun c7 => ?_)
        · have c8 : z6.toInt ≠ 1 := fun z_ => c7 (Int32.toInt_inj.mp z_)
          have i9 : iv z6 0 0 := iv_Nh c8 iz6 (by decide)
          refine lv_lload hx hb dX11_power2_30 (lv_at hl 1 rfl) ?_
          refine lv_lload hx hb dX11_power2_32 (lv_at hl 1 rfl) ?_
          refine lv_lmul hx hb dX11_power2_34 (lv_topl (fun w12 ew12 => ?_))
          refine lv_ldc2 (v := 1000003) hx hb hown (hts _ w_1719) dX11_power2_35 ?_
          refine lv_lrem hx hb dX11_power2_38 (by decide) (i_topl (lrem_iv (k := 1000003) rfl (by decide) (lo := -1000002) (hi := 1000002) (by decide)) (fun w13 ew13 iw13 => ?_))
          refine lv_lstore (lv' := [(5, .long w13), (3, .long v8_3), (7, .int v8_7)]) hx hb dX11_power2_39 hl (by decide) rfl (fun ls hl => ?_)
          refine lv_iload hx hb dX11_power2_41 (lv_at hl 2 rfl) ?_
          refine lv_iconst (v := 1) hx hb dX11_power2_43 (by decide) ?_
          refine lv_ishr hx hb dX11_power2_44 (i_topm (P := fun q_ => q_ = Int32.toInt v8_7 / 2) (iv_shr1 i5 (lo := 0) (hi := 1073741823) (by decide)) (fun z14 ez14 mz14 iz14 => ?_))
          refine lv_istore (lv' := [(7, .int z14), (5, .long w13), (3, .long v8_3)]) hx hb dX11_power2_45 hl (by decide) rfl (fun ls hl => ?_)
          refine lv_goto (tgt := 8) hx hb dX11_power2_47 (by decide) ?_
          exact ih8 ls f_8 H locs v8_3 w13 z14 (show z14.toInt < _ by omega) (lv_cons hl 2 rfl (lv_cons hl 1 rfl (lv_cons hl 0 rfl (lv_nil hl)))) h t_8 o_8 (ivl_w iv8_3 (by decide)) (iv_w iz14 (by decide))
        · have c10 : z6.toInt = 1 := congrArg Int32.toInt c7
          have i11 : iv z6 1 1 := iv_Q c10 iz6 (iv_k (x := 1) (k := 1) rfl) (by decide)
          refine lv_lload_n hx hb dX11_power2_21 rfl (lv_at hl 0 rfl) ?_
          refine lv_lload hx hb dX11_power2_22 (lv_at hl 1 rfl) ?_
          refine lv_lmul hx hb dX11_power2_24 (lv_topl (fun w15 ew15 => ?_))
          refine lv_ldc2 (v := 1000003) hx hb hown (hts _ w_1719) dX11_power2_25 ?_
          refine lv_lrem hx hb dX11_power2_28 (by decide) (i_topl (lrem_iv (k := 1000003) rfl (by decide) (lo := -1000002) (hi := 1000002) (by decide)) (fun w16 ew16 iw16 => ?_))
          refine lv_lstore_n (lv' := [(3, .long w16), (5, .long v8_5), (7, .int v8_7)]) hx hb dX11_power2_29 rfl hl (by decide) rfl (fun ls hl => ?_)
          refine lv_lload hx hb dX11_power2_30 (lv_at hl 1 rfl) ?_
          refine lv_lload hx hb dX11_power2_32 (lv_at hl 1 rfl) ?_
          refine lv_lmul hx hb dX11_power2_34 (lv_topl (fun w17 ew17 => ?_))
          refine lv_ldc2 (v := 1000003) hx hb hown (hts _ w_1719) dX11_power2_35 ?_
          refine lv_lrem hx hb dX11_power2_38 (by decide) (i_topl (lrem_iv (k := 1000003) rfl (by decide) (lo := -1000002) (hi := 1000002) (by decide)) (fun w18 ew18 iw18 => ?_))
          refine lv_lstore (lv' := [(5, .long w18), (3, .long w16), (7, .int v8_7)]) hx hb dX11_power2_39 hl (by decide) rfl (fun ls hl => ?_)
          refine lv_iload hx hb dX11_power2_41 (lv_at hl 2 rfl) ?_
          refine lv_iconst (v := 1) hx hb dX11_power2_43 (by decide) ?_
          refine lv_ishr hx hb dX11_power2_44 (i_topm (P := fun q_ => q_ = Int32.toInt v8_7 / 2) (iv_shr1 i5 (lo := 0) (hi := 1073741823) (by decide)) (fun z19 ez19 mz19 iz19 => ?_))
          refine lv_istore (lv' := [(7, .int z19), (5, .long w18), (3, .long w16)]) hx hb dX11_power2_45 hl (by decide) rfl (fun ls hl => ?_)
          refine lv_goto (tgt := 8) hx hb dX11_power2_47 (by decide) ?_
          exact ih8 ls f_8 H locs w16 w18 z19 (show z19.toInt < _ by omega) (lv_cons hl 2 rfl (lv_cons hl 1 rfl (lv_cons hl 0 rfl (lv_nil hl)))) h t_8 o_8 (ivl_w iw16 (by decide)) (iv_w iz19 (by decide))
  refine lv_lconst (v := 1) hx hb dX11_power2_0 (by decide) ?_
  refine lv_lstore_n (lv' := [(3, .long 1), (0, .long u0), (2, .int u1)]) hx hb dX11_power2_1 rfl hl (by decide) rfl (fun ls hl => ?_)
  refine lv_lload_n hx hb dX11_power2_2 rfl (lv_at hl 1 rfl) ?_
  refine lv_lstore (lv' := [(5, .long u0), (3, .long 1), (0, .long u0), (2, .int u1)]) hx hb dX11_power2_3 hl (by decide) rfl (fun ls hl => ?_)
  refine lv_iload_n hx hb dX11_power2_5 rfl (lv_at hl 3 rfl) ?_
  refine lv_istore (lv' := [(7, .int u1), (5, .long u0), (3, .long 1), (0, .long u0), (2, .int u1)]) hx hb dX11_power2_6 hl (by decide) rfl (fun ls hl => ?_)
  exact L8 2147483648 ls f s.heap [] 1 u0 u1 (show u1.toInt < _ by omega) (lv_cons hl 2 rfl (lv_cons hl 1 rfl (lv_cons hl 0 rfl (lv_nil hl)))) h t o (ivl_w (ivl_k (x := 1) (k := 1) rfl) (by decide)) hu1
abbrev rm_s_X11_inverse : Room := { frames := 1, cells := 0, slots := 0, locals := 27 }
set_option maxRecDepth 100000 in
set_option maxHeartbeats 4000000 in
theorem s_X11_inverse (l : Launch) (D : va_G) (G : Nat → Nat) (b0 : Nat) (τ : Nat → Nat) (f : hM) (t : TI G 9 τ f) (u0 : Int64) : mL l yX11_inverse cX11_inverse 2 rm_s_X11_inverse D G b0 f [.long u0] (fun r f1 => ivl r (-1000002) 1000002 ∧ TI G 9 τ f1 ∧ Fr [] τ f f1) := by
  refine met2 (own := RX11) (by decide) rfl (Nat.le_of_ble_eq_true rfl) ?_
  intro p e s m args below meth c ls Q hQ C hr hini hl h
  have hl : lv_has ls 2 [(0, .long u0)] := hl
  obtain ⟨hx, hb, hml, hown, hts, hE0, hlk⟩ := id C
  have o := Fr.rf [] τ f
  refine lv_lload_n hx hb dX11_inverse_0 rfl (lv_at hl 0 rfl) ?_
  refine lv_ldcw (v := 1000001) hx hb hown (hts _ w_1803) dX11_inverse_1 ?_
  refine k_l (r_S C h hl (As := [.long u0, .int 1000001]) (rest := []) (s_X11_power2 l D G b0 τ f t u0 1000001 (iv_w (iv_k (x := 1000001) (k := 1000001) rfl) (by decide))) mk_X11_power2 w_1804 w_1805 w_1806 ⟨Nat.le_of_ble_eq_true rfl, Nat.le_of_ble_eq_true rfl⟩ rfl (Nat.le_of_ble_eq_true rfl) ⟨Nat.le_of_ble_eq_true rfl, Nat.le_of_ble_eq_true rfl⟩ rfl dX11_inverse_4) h (fun r1 f2 H locs p3 h => ?_)
  obtain ⟨ir1, tf2, ogf2⟩ := p3
  have egf2 := Fr.nil2 ogf2
  subst egf2
  exact u_lret C h hr hQ (⟨(ivl_w ir1 (by decide)), t, o⟩) (Nat.le_of_ble_eq_true rfl) (Nat.le_of_ble_eq_true rfl) dX11_inverse_7
abbrev rm_s_X11_by : Room := { frames := 2, cells := 0, slots := 0, locals := 48 }
set_option maxRecDepth 100000 in
set_option maxHeartbeats 4000000 in
theorem s_X11_by (l : Launch) (D : va_G) (G : Nat → Nat) (b0 : Nat) (τ : Nat → Nat) (f : hM) (t : TI G 9 τ f) (u0 : Int64) (u1 : Int32) (hu1 : iv u1 (-2147483648) 2147483647) : mL l yX11_by cX11_by 3 rm_s_X11_by D G b0 f [.long u0, .int u1] (fun r f1 => TI G 9 τ f1 ∧ Fr [] τ f f1) := by
  refine met2 (own := RX11) (by decide) rfl (Nat.le_of_ble_eq_true rfl) ?_
  intro p e s m args below meth c ls Q hQ C hr hini hl h
  have hl : lv_has ls 3 [(0, .long u0), (2, .int u1)] := hl
  obtain ⟨hx, hb, hml, hown, hts, hE0, hlk⟩ := id C
  have o := Fr.rf [] τ f
  refine lv_iload_n hx hb dX11_by_0 rfl (lv_at hl 1 rfl) ?_
  refine lv_if_ne (tgt := 8) hx hb dX11_by_1 (by decide) (fun c1 => ?_) (fun c1 => ?_)
  · have c2 : u1.toInt ≠ 0 := fun z_ => c1 (Int32.toInt_inj.mp z_)
    refine lv_iload_n hx hb dX11_by_8 rfl (lv_at hl 1 rfl) ?_
    refine lv_if_le (tgt := 16) hx hb dX11_by_9 (by decide) (fun c5 => ?_) (fun c5 => ?_)
    · have c6 : u1.toInt ≤ 0 := Int32.le_iff_toInt_le.mp c5
      have i7 : iv u1 (-2147483648) 0 := iv_El c6 hu1 (iv_k (x := 0) (k := 0) rfl) (by decide)
      refine lv_lload_n hx hb dX11_by_16 rfl (lv_at hl 0 rfl) ?_
      refine k_l (r_S C h hl (As := [.long u0]) (rest := []) (s_X11_inverse l D G b0 τ f t u0) mk_X11_inverse w_1800 w_1801 w_1802 ⟨Nat.le_of_ble_eq_true rfl, Nat.le_of_ble_eq_true rfl⟩ rfl (Nat.le_of_ble_eq_true rfl) ⟨Nat.le_of_ble_eq_true rfl, Nat.le_of_ble_eq_true rfl⟩ rfl dX11_by_17) h (fun r10 f11 H locs p12 h => ?_)
      obtain ⟨ir10, tf11, ogf11⟩ := p12
      have egf11 := Fr.nil2 ogf11
      subst egf11
      exact u_lret C h hr hQ (⟨t, o⟩) (Nat.le_of_ble_eq_true rfl) (Nat.le_of_ble_eq_true rfl) dX11_by_20
    · have c8 : 0 < u1.toInt := Int32.lt_iff_toInt_lt.mp (iv_nle c5)
      have i9 : iv u1 1 2147483647 := iv_Lr c8 (iv_k (x := 0) (k := 0) rfl) hu1 (by decide)
      refine lv_lload_n hx hb dX11_by_12 rfl (lv_at hl 0 rfl) ?_
      refine lv_goto (tgt := 20) hx hb dX11_by_13 (by decide) ?_
      exact u_lret C h hr hQ (⟨t, o⟩) (Nat.le_of_ble_eq_true rfl) (Nat.le_of_ble_eq_true rfl) dX11_by_20
  · have c3 : u1.toInt = 0 := congrArg Int32.toInt c1
    have i4 : iv u1 0 0 := iv_Q c3 hu1 (iv_k (x := 0) (k := 0) rfl) (by decide)
    refine lv_lconst (v := 1) hx hb dX11_by_4 (by decide) ?_
    refine lv_goto (tgt := 20) hx hb dX11_by_5 (by decide) ?_
    exact u_lret C h hr hQ (⟨t, o⟩) (Nat.le_of_ble_eq_true rfl) (Nat.le_of_ble_eq_true rfl) dX11_by_20
abbrev rm_s_X11_common : Room := { frames := 0, cells := 0, slots := 0, locals := 0 }
set_option maxRecDepth 100000 in
set_option maxHeartbeats 4000000 in
theorem s_X11_common (l : Launch) (D : va_G) (G : Nat → Nat) (b0 : Nat) (τ : Nat → Nat) (f : hM) (t : TI G 9 τ f) (u0 : Int32) (hu0 : iv u0 0 100) (u1 : Int32) (hu1 : iv u1 0 100) : mI l yX11_common cX11_common 5 (.int) rm_s_X11_common D G b0 f [.int u0, .int u1] (fun r f1 => iv r 0 100 ∧ TI G 9 τ f1 ∧ Fr [] τ f f1) := by
  refine met2 (own := RX11) (by decide) rfl (Nat.le_of_ble_eq_true rfl) ?_
  intro p e s m args below meth c ls Q hQ C hr hini hl h
  have hl : lv_has ls 5 [(0, .int u0), (1, .int u1)] := hl
  obtain ⟨hx, hb, hml, hown, hts, hE0, hlk⟩ := id C
  have o := Fr.rf [] τ f
  have L4 : ∀ (n4 : Nat) (ls : Array Slot) (f_4 : hM) (H : Heap) (locs : List Loc) (v4_2 : Int32) (v4_3 : Int32), v4_3.toInt < (n4 : Int) → lv_has ls 5 [(2, .int v4_2), (3, .int v4_3)] → hw D b0 s.heap f_4 H locs → TI G 9 τ f_4 → Fr [] τ f f_4 → iv v4_2 0 100 → iv v4_3 0 100 → W p l e rm_s_X11_common s m args below meth c H locs 0 0 Q (F0 m 4 ls []) := by
    intro n4
    induction n4 with
    | zero => intro ls f_4 H locs v4_2 v4_3 hm4 hl h t_4 o_4 iv4_2 iv4_3; exact absurd hm4 (by omega)
    | succ n4 ih4 =>
      intro ls f_4 H locs v4_2 v4_3 hm4 hl h t_4 o_4 iv4_2 iv4_3
      refine lv_iload_n hx hb dX11_common_4 rfl (lv_at hl 1 rfl) ?_
      refine lv_if_eq (tgt := 21) hx hb dX11_common_5 (by decide) (fun c1 => ?_) (fun c1 => ?_)
      · have c2 : v4_3.toInt = 0 := congrArg Int32.toInt c1
        have i3 : iv v4_3 0 0 := iv_Q c2 iv4_3 (iv_k (x := 0) (k := 0) rfl) (by decide)
        refine lv_iload_n hx hb dX11_common_21 rfl (lv_at hl 0 rfl) ?_
        exact u_iret C h hr hQ (⟨iv4_2, t_4, o_4⟩) (Nat.le_of_ble_eq_true rfl) (Nat.le_of_ble_eq_true rfl) dX11_common_22
      · have c4 : v4_3.toInt ≠ 0 := fun z_ => c1 (Int32.toInt_inj.mp z_)
        have i5 : iv v4_3 1 100 := iv_Nl c4 iv4_3 (by decide)
        refine lv_iload_n hx hb dX11_common_8 rfl (lv_at hl 0 rfl) ?_
        refine lv_iload_n hx hb dX11_common_9 rfl (lv_at hl 1 rfl) ?_
        refine lv_irem hx hb dX11_common_10 (iv_nz i5 (by decide)) (i_topm (P := fun q_ => q_ < Int32.toInt v4_3 ∧ q_ ≤ Int32.toInt v4_2) (iv_remm (iv_w iv4_2 (by decide) : iv _ 0 100) i5 (by decide)) (fun z6 ez6 mz6 iz6 => ?_))
        refine lv_istore (lv' := [(4, .int z6), (2, .int v4_2), (3, .int v4_3)]) hx hb dX11_common_11 hl (by decide) rfl (fun ls hl => ?_)
        refine lv_iload_n hx hb dX11_common_13 rfl (lv_at hl 2 rfl) ?_
        refine lv_istore_n (lv' := [(2, .int v4_3), (4, .int z6), (3, .int v4_3)]) hx hb dX11_common_14 rfl hl (by decide) rfl (fun ls hl => ?_)
        refine lv_iload hx hb dX11_common_15 (lv_at hl 1 rfl) ?_
        refine lv_istore_n (lv' := [(3, .int z6), (2, .int v4_3), (4, .int z6)]) hx hb dX11_common_17 rfl hl (by decide) rfl (fun ls hl => ?_)
        refine lv_goto (tgt := 4) hx hb dX11_common_18 (by decide) ?_
        exact ih4 ls f_4 H locs v4_3 z6 (show z6.toInt < _ by omega) (lv_cons hl 1 rfl (lv_cons hl 0 rfl (lv_nil hl))) h t_4 o_4 (iv_w i5 (by decide)) (iv_w iz6 (by decide))
  refine lv_iload_n hx hb dX11_common_0 rfl (lv_at hl 0 rfl) ?_
  refine lv_istore_n (lv' := [(2, .int u0), (0, .int u0), (1, .int u1)]) hx hb dX11_common_1 rfl hl (by decide) rfl (fun ls hl => ?_)
  refine lv_iload_n hx hb dX11_common_2 rfl (lv_at hl 2 rfl) ?_
  refine lv_istore_n (lv' := [(3, .int u1), (2, .int u0), (0, .int u0), (1, .int u1)]) hx hb dX11_common_3 rfl hl (by decide) rfl (fun ls hl => ?_)
  exact L4 101 ls f s.heap [] u0 u1 (show u1.toInt < _ by omega) (lv_cons hl 1 rfl (lv_cons hl 0 rfl (lv_nil hl))) h t o hu0 hu1
