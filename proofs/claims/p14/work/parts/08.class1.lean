theorem dX10_within_0 : decode cX10_within 0 = .ok (.iload_n 0, 1) := by decide +kernel
theorem dX10_within_1 : decode cX10_within 1 = .ok (.iload_n 1, 1) := by decide +kernel
theorem dX10_within_2 : decode cX10_within 2 = .ok (.if_icmp .lt 12, 3) := by decide +kernel
theorem dX10_within_14 : decode cX10_within 14 = .ok (.iconst 0, 1) := by decide +kernel
theorem dX10_within_5 : decode cX10_within 5 = .ok (.iload_n 0, 1) := by decide +kernel
theorem dX10_within_6 : decode cX10_within 6 = .ok (.iload_n 2, 1) := by decide +kernel
theorem dX10_within_7 : decode cX10_within 7 = .ok (.if_icmp .gt 7, 3) := by decide +kernel
theorem dX10_within_10 : decode cX10_within 10 = .ok (.iconst 1, 1) := by decide +kernel
theorem dX10_within_11 : decode cX10_within 11 = .ok (.goto 4, 3) := by decide +kernel
theorem dX10_within_15 : decode cX10_within 15 = .ok (.ireturn, 1) := by decide +kernel
theorem dX10_isLength_0 : decode cX10_isLength 0 = .ok (.iload_n 0, 1) := by decide +kernel
theorem dX10_isLength_1 : decode cX10_isLength 1 = .ok (.iconst 0, 1) := by decide +kernel
theorem dX10_isLength_2 : decode cX10_isLength 2 = .ok (.bipush 60, 2) := by decide +kernel
theorem dX10_isLength_4 : decode cX10_isLength 4 = .ok (.invokestatic 87, 3) := by decide +kernel
theorem w_425 : Cond.methodLink "QuarterWalks" 87 yX10_within ∈ wAll := wI2 90 (by decide +kernel) (by decide +kernel)
theorem w_96 : Cond.initialized "QuarterWalks" ∈ wAll := wI1 1 (by decide +kernel) (by decide +kernel)
theorem mk_X10_within : mk yX10_within 3 := ⟨by decide +kernel, w_96⟩
theorem w_426 : Cond.static yX10_within ∈ wAll := wI2 91 (by decide +kernel) (by decide +kernel)
theorem w_427 : Cond.code yX10_within cX10_within 3 (some .boolean) ∈ wAll := wI2 92 (by decide +kernel) (by decide +kernel)
theorem dX10_isLength_7 : decode cX10_isLength 7 = .ok (.ireturn, 1) := by decide +kernel
theorem dX10_isNear_0 : decode cX10_isNear 0 = .ok (.iload_n 0, 1) := by decide +kernel
theorem dX10_isNear_1 : decode cX10_isNear 1 = .ok (.bipush (-70), 2) := by decide +kernel
theorem dX10_isNear_3 : decode cX10_isNear 3 = .ok (.bipush 70, 2) := by decide +kernel
theorem dX10_isNear_5 : decode cX10_isNear 5 = .ok (.invokestatic 87, 3) := by decide +kernel
theorem dX10_isNear_8 : decode cX10_isNear 8 = .ok (.ifCond .eq 18, 3) := by decide +kernel
theorem dX10_isNear_26 : decode cX10_isNear 26 = .ok (.iconst 0, 1) := by decide +kernel
theorem dX10_isNear_11 : decode cX10_isNear 11 = .ok (.iload_n 1, 1) := by decide +kernel
theorem dX10_isNear_12 : decode cX10_isNear 12 = .ok (.bipush (-70), 2) := by decide +kernel
theorem dX10_isNear_14 : decode cX10_isNear 14 = .ok (.bipush 70, 2) := by decide +kernel
theorem dX10_isNear_16 : decode cX10_isNear 16 = .ok (.invokestatic 87, 3) := by decide +kernel
theorem dX10_isNear_19 : decode cX10_isNear 19 = .ok (.ifCond .eq 7, 3) := by decide +kernel
theorem dX10_isNear_22 : decode cX10_isNear 22 = .ok (.iconst 1, 1) := by decide +kernel
theorem dX10_isNear_23 : decode cX10_isNear 23 = .ok (.goto 4, 3) := by decide +kernel
theorem dX10_isNear_27 : decode cX10_isNear 27 = .ok (.ireturn, 1) := by decide +kernel
theorem dX10_isKind_0 : decode cX10_isKind 0 = .ok (.iload_n 0, 1) := by decide +kernel
theorem dX10_isKind_1 : decode cX10_isKind 1 = .ok (.iconst 0, 1) := by decide +kernel
theorem dX10_isKind_2 : decode cX10_isKind 2 = .ok (.iconst 4, 1) := by decide +kernel
theorem dX10_isKind_3 : decode cX10_isKind 3 = .ok (.invokestatic 87, 3) := by decide +kernel
theorem dX10_isKind_6 : decode cX10_isKind 6 = .ok (.ireturn, 1) := by decide +kernel
theorem dX10_isUnit_0 : decode cX10_isUnit 0 = .ok (.iload_n 0, 1) := by decide +kernel
theorem dX10_isUnit_1 : decode cX10_isUnit 1 = .ok (.iconst 1, 1) := by decide +kernel
theorem dX10_isUnit_2 : decode cX10_isUnit 2 = .ok (.ldc 255, 2) := by decide +kernel
theorem w_855 : Cond.constant "QuarterWalks" 255 1000002 ∈ wAll := wI4 40 (by decide +kernel) (by decide +kernel)
theorem dX10_isUnit_4 : decode cX10_isUnit 4 = .ok (.invokestatic 87, 3) := by decide +kernel
theorem dX10_isUnit_7 : decode cX10_isUnit 7 = .ok (.ireturn, 1) := by decide +kernel
theorem dX10_fitsLong_0 : decode cX10_fitsLong 0 = .ok (.lconst 1, 1) := by decide +kernel
theorem dX10_fitsLong_1 : decode cX10_fitsLong 1 = .ok (.lstore_n 2, 1) := by decide +kernel
theorem dX10_fitsLong_2 : decode cX10_fitsLong 2 = .ok (.iconst 0, 1) := by decide +kernel
theorem dX10_fitsLong_3 : decode cX10_fitsLong 3 = .ok (.istore 4, 2) := by decide +kernel
theorem dX10_fitsLong_5 : decode cX10_fitsLong 5 = .ok (.iload 4, 2) := by decide +kernel
theorem dX10_fitsLong_7 : decode cX10_fitsLong 7 = .ok (.iload_n 1, 1) := by decide +kernel
theorem dX10_fitsLong_8 : decode cX10_fitsLong 8 = .ok (.if_icmp .ge 32, 3) := by decide +kernel
theorem dX10_fitsLong_40 : decode cX10_fitsLong 40 = .ok (.iconst 1, 1) := by decide +kernel
theorem dX10_fitsLong_11 : decode cX10_fitsLong 11 = .ok (.iload_n 0, 1) := by decide +kernel
theorem dX10_fitsLong_12 : decode cX10_fitsLong 12 = .ok (.iconst 1, 1) := by decide +kernel
theorem dX10_fitsLong_13 : decode cX10_fitsLong 13 = .ok (.if_icmp .le 27, 3) := by decide +kernel
theorem dX10_fitsLong_16 : decode cX10_fitsLong 16 = .ok (.lload_n 2, 1) := by decide +kernel
theorem dX10_fitsLong_17 : decode cX10_fitsLong 17 = .ok (.ldc2_w 403, 3) := by decide +kernel
theorem w_756 : Cond.constantLong "QuarterWalks" 403 9223372036854775807 ∈ wAll := wI3 181 (by decide +kernel) (by decide +kernel)
theorem dX10_fitsLong_20 : decode cX10_fitsLong 20 = .ok (.iload_n 0, 1) := by decide +kernel
theorem dX10_fitsLong_21 : decode cX10_fitsLong 21 = .ok (.i2l, 1) := by decide +kernel
theorem dX10_fitsLong_22 : decode cX10_fitsLong 22 = .ok (.ldiv, 1) := by decide +kernel
theorem dX10_fitsLong_23 : decode cX10_fitsLong 23 = .ok (.lcmp, 1) := by decide +kernel
theorem dX10_fitsLong_24 : decode cX10_fitsLong 24 = .ok (.ifCond .le 5, 3) := by decide +kernel
theorem dX10_fitsLong_29 : decode cX10_fitsLong 29 = .ok (.lload_n 2, 1) := by decide +kernel
theorem dX10_fitsLong_30 : decode cX10_fitsLong 30 = .ok (.iload_n 0, 1) := by decide +kernel
theorem dX10_fitsLong_31 : decode cX10_fitsLong 31 = .ok (.i2l, 1) := by decide +kernel
theorem dX10_fitsLong_32 : decode cX10_fitsLong 32 = .ok (.lmul, 1) := by decide +kernel
theorem dX10_fitsLong_33 : decode cX10_fitsLong 33 = .ok (.lstore_n 2, 1) := by decide +kernel
theorem dX10_fitsLong_34 : decode cX10_fitsLong 34 = .ok (.iinc 4 1, 3) := by decide +kernel
theorem dX10_fitsLong_37 : decode cX10_fitsLong 37 = .ok (.goto (-32), 3) := by decide +kernel
theorem dX10_fitsLong_27 : decode cX10_fitsLong 27 = .ok (.iconst 0, 1) := by decide +kernel
theorem dX10_fitsLong_41 : decode cX10_fitsLong 41 = .ok (.ireturn, 1) := by decide +kernel
theorem dX10_fitsLong_28 : decode cX10_fitsLong 28 = .ok (.ireturn, 1) := by decide +kernel
theorem dX10_commonDivisor_0 : decode cX10_commonDivisor 0 = .ok (.iload_n 0, 1) := by decide +kernel
theorem dX10_commonDivisor_1 : decode cX10_commonDivisor 1 = .ok (.istore_n 2, 1) := by decide +kernel
theorem dX10_commonDivisor_2 : decode cX10_commonDivisor 2 = .ok (.iload_n 1, 1) := by decide +kernel
theorem dX10_commonDivisor_3 : decode cX10_commonDivisor 3 = .ok (.istore_n 3, 1) := by decide +kernel
theorem dX10_commonDivisor_4 : decode cX10_commonDivisor 4 = .ok (.iconst 0, 1) := by decide +kernel
theorem dX10_commonDivisor_5 : decode cX10_commonDivisor 5 = .ok (.istore 4, 2) := by decide +kernel
theorem dX10_commonDivisor_7 : decode cX10_commonDivisor 7 = .ok (.iload 4, 2) := by decide +kernel
theorem dX10_commonDivisor_9 : decode cX10_commonDivisor 9 = .ok (.bipush 100, 2) := by decide +kernel
theorem dX10_commonDivisor_11 : decode cX10_commonDivisor 11 = .ok (.if_icmp .ge 23, 3) := by decide +kernel
theorem dX10_commonDivisor_14 : decode cX10_commonDivisor 14 = .ok (.iload_n 3, 1) := by decide +kernel
theorem dX10_commonDivisor_15 : decode cX10_commonDivisor 15 = .ok (.ifCond .eq 19, 3) := by decide +kernel
theorem dX10_commonDivisor_34 : decode cX10_commonDivisor 34 = .ok (.iload_n 2, 1) := by decide +kernel
theorem dX10_commonDivisor_18 : decode cX10_commonDivisor 18 = .ok (.iload_n 2, 1) := by decide +kernel
theorem dX10_commonDivisor_19 : decode cX10_commonDivisor 19 = .ok (.iload_n 3, 1) := by decide +kernel
theorem dX10_commonDivisor_20 : decode cX10_commonDivisor 20 = .ok (.irem, 1) := by decide +kernel
theorem dX10_commonDivisor_21 : decode cX10_commonDivisor 21 = .ok (.istore 5, 2) := by decide +kernel
theorem dX10_commonDivisor_23 : decode cX10_commonDivisor 23 = .ok (.iload_n 3, 1) := by decide +kernel
theorem dX10_commonDivisor_24 : decode cX10_commonDivisor 24 = .ok (.istore_n 2, 1) := by decide +kernel
theorem dX10_commonDivisor_25 : decode cX10_commonDivisor 25 = .ok (.iload 5, 2) := by decide +kernel
theorem dX10_commonDivisor_27 : decode cX10_commonDivisor 27 = .ok (.istore_n 3, 1) := by decide +kernel
theorem dX10_commonDivisor_28 : decode cX10_commonDivisor 28 = .ok (.iinc 4 1, 3) := by decide +kernel
theorem dX10_commonDivisor_31 : decode cX10_commonDivisor 31 = .ok (.goto (-24), 3) := by decide +kernel
theorem dX10_commonDivisor_35 : decode cX10_commonDivisor 35 = .ok (.ireturn, 1) := by decide +kernel
theorem dX10_residue_0 : decode cX10_residue 0 = .ok (.lload_n 0, 1) := by decide +kernel
theorem dX10_residue_1 : decode cX10_residue 1 = .ok (.ldc2_w 405, 3) := by decide +kernel
theorem w_743 : Cond.constantLong "QuarterWalks" 405 1000003 ∈ wAll := wI3 168 (by decide +kernel) (by decide +kernel)
theorem dX10_residue_4 : decode cX10_residue 4 = .ok (.lrem, 1) := by decide +kernel
theorem dX10_residue_5 : decode cX10_residue 5 = .ok (.lstore_n 2, 1) := by decide +kernel
theorem dX10_residue_6 : decode cX10_residue 6 = .ok (.lload_n 2, 1) := by decide +kernel
theorem dX10_residue_7 : decode cX10_residue 7 = .ok (.lconst 0, 1) := by decide +kernel
theorem dX10_residue_8 : decode cX10_residue 8 = .ok (.lcmp, 1) := by decide +kernel
theorem dX10_residue_9 : decode cX10_residue 9 = .ok (.ifCond .ge 11, 3) := by decide +kernel
theorem dX10_residue_20 : decode cX10_residue 20 = .ok (.lload_n 2, 1) := by decide +kernel
theorem dX10_residue_21 : decode cX10_residue 21 = .ok (.l2i, 1) := by decide +kernel
theorem dX10_residue_12 : decode cX10_residue 12 = .ok (.lload_n 2, 1) := by decide +kernel
theorem dX10_residue_13 : decode cX10_residue 13 = .ok (.ldc2_w 405, 3) := by decide +kernel
theorem dX10_residue_16 : decode cX10_residue 16 = .ok (.ladd, 1) := by decide +kernel
theorem dX10_residue_17 : decode cX10_residue 17 = .ok (.goto 4, 3) := by decide +kernel
theorem dX10_residue_22 : decode cX10_residue 22 = .ok (.ireturn, 1) := by decide +kernel
theorem dX10_times_0 : decode cX10_times 0 = .ok (.lload_n 0, 1) := by decide +kernel
theorem dX10_times_1 : decode cX10_times 1 = .ok (.lload_n 2, 1) := by decide +kernel
theorem dX10_times_2 : decode cX10_times 2 = .ok (.lmul, 1) := by decide +kernel
theorem dX10_times_3 : decode cX10_times 3 = .ok (.ldc2_w 405, 3) := by decide +kernel
theorem dX10_times_6 : decode cX10_times 6 = .ok (.lrem, 1) := by decide +kernel
theorem dX10_times_7 : decode cX10_times 7 = .ok (.l2i, 1) := by decide +kernel
theorem dX10_times_8 : decode cX10_times 8 = .ok (.ireturn, 1) := by decide +kernel
theorem dX10_inverse_0 : decode cX10_inverse 0 = .ok (.lconst 1, 1) := by decide +kernel
theorem dX10_inverse_1 : decode cX10_inverse 1 = .ok (.lstore_n 1, 1) := by decide +kernel
theorem dX10_inverse_2 : decode cX10_inverse 2 = .ok (.iload_n 0, 1) := by decide +kernel
theorem dX10_inverse_3 : decode cX10_inverse 3 = .ok (.i2l, 1) := by decide +kernel
theorem dX10_inverse_4 : decode cX10_inverse 4 = .ok (.lstore_n 3, 1) := by decide +kernel
theorem dX10_inverse_5 : decode cX10_inverse 5 = .ok (.ldc_w 407, 3) := by decide +kernel
theorem w_812 : Cond.constant "QuarterWalks" 407 1000001 ∈ wAll := wI3 237 (by decide +kernel) (by decide +kernel)
theorem dX10_inverse_8 : decode cX10_inverse 8 = .ok (.istore 5, 2) := by decide +kernel
theorem dX10_inverse_10 : decode cX10_inverse 10 = .ok (.iload 5, 2) := by decide +kernel
theorem dX10_inverse_12 : decode cX10_inverse 12 = .ok (.ifCond .le 35, 3) := by decide +kernel
theorem dX10_inverse_15 : decode cX10_inverse 15 = .ok (.iload 5, 2) := by decide +kernel
theorem dX10_inverse_17 : decode cX10_inverse 17 = .ok (.iconst 1, 1) := by decide +kernel
theorem dX10_inverse_18 : decode cX10_inverse 18 = .ok (.iand, 1) := by decide +kernel
theorem dX10_inverse_19 : decode cX10_inverse 19 = .ok (.ifCond .eq 11, 3) := by decide +kernel
theorem dX10_inverse_30 : decode cX10_inverse 30 = .ok (.lload_n 3, 1) := by decide +kernel
theorem dX10_inverse_31 : decode cX10_inverse 31 = .ok (.lload_n 3, 1) := by decide +kernel
theorem dX10_inverse_32 : decode cX10_inverse 32 = .ok (.lmul, 1) := by decide +kernel
theorem dX10_inverse_33 : decode cX10_inverse 33 = .ok (.ldc2_w 405, 3) := by decide +kernel
theorem dX10_inverse_36 : decode cX10_inverse 36 = .ok (.lrem, 1) := by decide +kernel
theorem dX10_inverse_37 : decode cX10_inverse 37 = .ok (.lstore_n 3, 1) := by decide +kernel
theorem dX10_inverse_38 : decode cX10_inverse 38 = .ok (.iload 5, 2) := by decide +kernel
theorem dX10_inverse_40 : decode cX10_inverse 40 = .ok (.iconst 1, 1) := by decide +kernel
theorem dX10_inverse_41 : decode cX10_inverse 41 = .ok (.ishr, 1) := by decide +kernel
theorem dX10_inverse_42 : decode cX10_inverse 42 = .ok (.istore 5, 2) := by decide +kernel
theorem dX10_inverse_44 : decode cX10_inverse 44 = .ok (.goto (-34), 3) := by decide +kernel
theorem dX10_inverse_22 : decode cX10_inverse 22 = .ok (.lload_n 1, 1) := by decide +kernel
theorem dX10_inverse_23 : decode cX10_inverse 23 = .ok (.lload_n 3, 1) := by decide +kernel
theorem dX10_inverse_24 : decode cX10_inverse 24 = .ok (.lmul, 1) := by decide +kernel
theorem dX10_inverse_25 : decode cX10_inverse 25 = .ok (.ldc2_w 405, 3) := by decide +kernel
theorem dX10_inverse_28 : decode cX10_inverse 28 = .ok (.lrem, 1) := by decide +kernel
theorem dX10_inverse_29 : decode cX10_inverse 29 = .ok (.lstore_n 1, 1) := by decide +kernel
theorem dX10_inverse_47 : decode cX10_inverse 47 = .ok (.lload_n 1, 1) := by decide +kernel
theorem dX10_inverse_48 : decode cX10_inverse 48 = .ok (.l2i, 1) := by decide +kernel
theorem dX10_inverse_49 : decode cX10_inverse 49 = .ok (.ireturn, 1) := by decide +kernel
theorem dX6_weightTotal_0 : decode cX6_weightTotal 0 = .ok (.iconst 0, 1) := by decide +kernel
theorem dX6_weightTotal_1 : decode cX6_weightTotal 1 = .ok (.istore_n 1, 1) := by decide +kernel
theorem dX6_weightTotal_2 : decode cX6_weightTotal 2 = .ok (.aload_n 0, 1) := by decide +kernel
theorem dX6_weightTotal_3 : decode cX6_weightTotal 3 = .ok (.getfield 15, 3) := by decide +kernel
theorem w_567 : Cond.laysFinal "QuarterWalks$StepSet" "QuarterWalks$StepSet" "weights" "[I" ∈ wAll := wI2 232 (by decide +kernel) (by decide +kernel)
theorem w_569 : Cond.laysFinal "QuarterWalks$StepSet" "QuarterWalks$StepSet" "startX" "I" ∈ wAll := wI2 234 (by decide +kernel) (by decide +kernel)
theorem w_571 : Cond.laysFinal "QuarterWalks$StepSet" "QuarterWalks$StepSet" "startY" "I" ∈ wAll := wI2 236 (by decide +kernel) (by decide +kernel)
theorem w_573 : Cond.lays "QuarterWalks$StepSet" "QuarterWalks$StepSet" "terms" "[I" ∈ wAll := wI2 238 (by decide +kernel) (by decide +kernel)
theorem inA_X6 : ∀ w ∈ u_ws RX6 TX6 4, w ∈ wAll := List.forall_mem_cons.mpr ⟨w_567, List.forall_mem_cons.mpr ⟨w_569, List.forall_mem_cons.mpr ⟨w_571, List.forall_mem_cons.mpr ⟨w_573, fun _ h => absurd h List.not_mem_nil⟩⟩⟩⟩
theorem w_553 : Cond.fieldLink "QuarterWalks$StepSet" 15 "QuarterWalks$StepSet" "weights" "[I" ∈ wAll := wI2 218 (by decide +kernel) (by decide +kernel)
theorem fl_X6_15 : fl RX6 15 7 0 := ⟨RX6, TX6, 4, rfl, inA_X6, by decide, w_553⟩
theorem dX6_weightTotal_6 : decode cX6_weightTotal 6 = .ok (.astore_n 2, 1) := by decide +kernel
theorem dX6_weightTotal_7 : decode cX6_weightTotal 7 = .ok (.aload_n 2, 1) := by decide +kernel
theorem dX6_weightTotal_8 : decode cX6_weightTotal 8 = .ok (.arraylength, 1) := by decide +kernel
theorem dX6_weightTotal_9 : decode cX6_weightTotal 9 = .ok (.istore_n 3, 1) := by decide +kernel
theorem dX6_weightTotal_10 : decode cX6_weightTotal 10 = .ok (.iconst 0, 1) := by decide +kernel
theorem dX6_weightTotal_11 : decode cX6_weightTotal 11 = .ok (.istore 4, 2) := by decide +kernel
theorem dX6_weightTotal_13 : decode cX6_weightTotal 13 = .ok (.iload 4, 2) := by decide +kernel
theorem dX6_weightTotal_15 : decode cX6_weightTotal 15 = .ok (.iload_n 3, 1) := by decide +kernel
theorem dX6_weightTotal_16 : decode cX6_weightTotal 16 = .ok (.if_icmp .ge 20, 3) := by decide +kernel
theorem dX6_weightTotal_19 : decode cX6_weightTotal 19 = .ok (.aload_n 2, 1) := by decide +kernel
theorem dX6_weightTotal_20 : decode cX6_weightTotal 20 = .ok (.iload 4, 2) := by decide +kernel
theorem dX6_weightTotal_22 : decode cX6_weightTotal 22 = .ok (.iaload, 1) := by decide +kernel
theorem dX6_weightTotal_23 : decode cX6_weightTotal 23 = .ok (.istore 5, 2) := by decide +kernel
theorem dX6_weightTotal_25 : decode cX6_weightTotal 25 = .ok (.iload_n 1, 1) := by decide +kernel
theorem dX6_weightTotal_26 : decode cX6_weightTotal 26 = .ok (.iload 5, 2) := by decide +kernel
theorem dX6_weightTotal_28 : decode cX6_weightTotal 28 = .ok (.iadd, 1) := by decide +kernel
theorem dX6_weightTotal_29 : decode cX6_weightTotal 29 = .ok (.istore_n 1, 1) := by decide +kernel
theorem dX6_weightTotal_30 : decode cX6_weightTotal 30 = .ok (.iinc 4 1, 3) := by decide +kernel
theorem dX6_weightTotal_33 : decode cX6_weightTotal 33 = .ok (.goto (-20), 3) := by decide +kernel
theorem dX6_weightTotal_36 : decode cX6_weightTotal 36 = .ok (.iload_n 1, 1) := by decide +kernel
theorem dX6_weightTotal_37 : decode cX6_weightTotal 37 = .ok (.ireturn, 1) := by decide +kernel
theorem dX6_bits_0 : decode cX6_bits 0 = .ok (.iconst 0, 1) := by decide +kernel
theorem dX6_bits_1 : decode cX6_bits 1 = .ok (.istore_n 1, 1) := by decide +kernel
theorem dX6_bits_2 : decode cX6_bits 2 = .ok (.iconst 0, 1) := by decide +kernel
theorem dX6_bits_3 : decode cX6_bits 3 = .ok (.istore_n 2, 1) := by decide +kernel
theorem dX6_bits_4 : decode cX6_bits 4 = .ok (.iload_n 2, 1) := by decide +kernel
theorem dX6_bits_5 : decode cX6_bits 5 = .ok (.bipush 8, 2) := by decide +kernel
theorem dX6_bits_7 : decode cX6_bits 7 = .ok (.if_icmp .ge 24, 3) := by decide +kernel
theorem dX6_bits_10 : decode cX6_bits 10 = .ok (.aload_n 0, 1) := by decide +kernel
theorem dX6_bits_11 : decode cX6_bits 11 = .ok (.getfield 15, 3) := by decide +kernel
theorem dX6_bits_14 : decode cX6_bits 14 = .ok (.iload_n 2, 1) := by decide +kernel
theorem dX6_bits_15 : decode cX6_bits 15 = .ok (.iaload, 1) := by decide +kernel
theorem dX6_bits_16 : decode cX6_bits 16 = .ok (.ifCond .eq 9, 3) := by decide +kernel
theorem dX6_bits_25 : decode cX6_bits 25 = .ok (.iinc 2 1, 3) := by decide +kernel
theorem dX6_bits_28 : decode cX6_bits 28 = .ok (.goto (-24), 3) := by decide +kernel
theorem dX6_bits_19 : decode cX6_bits 19 = .ok (.iload_n 1, 1) := by decide +kernel
theorem dX6_bits_20 : decode cX6_bits 20 = .ok (.iconst 1, 1) := by decide +kernel
theorem dX6_bits_21 : decode cX6_bits 21 = .ok (.iload_n 2, 1) := by decide +kernel
theorem dX6_bits_22 : decode cX6_bits 22 = .ok (.ishl, 1) := by decide +kernel
theorem dX6_bits_23 : decode cX6_bits 23 = .ok (.ior, 1) := by decide +kernel
theorem dX6_bits_24 : decode cX6_bits 24 = .ok (.istore_n 1, 1) := by decide +kernel
theorem dX6_bits_31 : decode cX6_bits 31 = .ok (.iload_n 1, 1) := by decide +kernel
theorem dX6_bits_32 : decode cX6_bits 32 = .ok (.ireturn, 1) := by decide +kernel
theorem dX6_drift_0 : decode cX6_drift 0 = .ok (.iconst 0, 1) := by decide +kernel
theorem dX6_drift_1 : decode cX6_drift 1 = .ok (.istore_n 2, 1) := by decide +kernel
theorem dX6_drift_2 : decode cX6_drift 2 = .ok (.iconst 0, 1) := by decide +kernel
theorem dX6_drift_3 : decode cX6_drift 3 = .ok (.istore_n 3, 1) := by decide +kernel
theorem dX6_drift_4 : decode cX6_drift 4 = .ok (.iload_n 3, 1) := by decide +kernel
theorem dX6_drift_5 : decode cX6_drift 5 = .ok (.bipush 8, 2) := by decide +kernel
theorem dX6_drift_7 : decode cX6_drift 7 = .ok (.if_icmp .ge 28, 3) := by decide +kernel
theorem dX6_drift_10 : decode cX6_drift 10 = .ok (.iload_n 3, 1) := by decide +kernel
theorem dX6_drift_11 : decode cX6_drift 11 = .ok (.aload_n 1, 1) := by decide +kernel
theorem dX6_drift_12 : decode cX6_drift 12 = .ok (.arraylength, 1) := by decide +kernel
theorem dX6_drift_13 : decode cX6_drift 13 = .ok (.if_icmp .ge 22, 3) := by decide +kernel
theorem dX6_drift_16 : decode cX6_drift 16 = .ok (.iload_n 2, 1) := by decide +kernel
theorem dX6_drift_17 : decode cX6_drift 17 = .ok (.aload_n 0, 1) := by decide +kernel
theorem dX6_drift_18 : decode cX6_drift 18 = .ok (.getfield 15, 3) := by decide +kernel
theorem dX6_drift_21 : decode cX6_drift 21 = .ok (.iload_n 3, 1) := by decide +kernel
theorem dX6_drift_22 : decode cX6_drift 22 = .ok (.iaload, 1) := by decide +kernel
theorem dX6_drift_23 : decode cX6_drift 23 = .ok (.aload_n 1, 1) := by decide +kernel
theorem dX6_drift_24 : decode cX6_drift 24 = .ok (.iload_n 3, 1) := by decide +kernel
theorem dX6_drift_25 : decode cX6_drift 25 = .ok (.iaload, 1) := by decide +kernel
theorem dX6_drift_26 : decode cX6_drift 26 = .ok (.imul, 1) := by decide +kernel
theorem dX6_drift_27 : decode cX6_drift 27 = .ok (.iadd, 1) := by decide +kernel
theorem dX6_drift_28 : decode cX6_drift 28 = .ok (.istore_n 2, 1) := by decide +kernel
theorem dX6_drift_29 : decode cX6_drift 29 = .ok (.iinc 3 1, 3) := by decide +kernel
theorem dX6_drift_32 : decode cX6_drift 32 = .ok (.goto (-28), 3) := by decide +kernel
theorem dX6_drift_35 : decode cX6_drift 35 = .ok (.iload_n 2, 1) := by decide +kernel
theorem dX6_drift_36 : decode cX6_drift 36 = .ok (.ireturn, 1) := by decide +kernel
theorem dX6_isSameBy_0 : decode cX6_isSameBy 0 = .ok (.iconst 0, 1) := by decide +kernel
theorem dX6_isSameBy_1 : decode cX6_isSameBy 1 = .ok (.istore_n 2, 1) := by decide +kernel
theorem dX6_isSameBy_2 : decode cX6_isSameBy 2 = .ok (.iload_n 2, 1) := by decide +kernel
theorem dX6_isSameBy_3 : decode cX6_isSameBy 3 = .ok (.bipush 8, 2) := by decide +kernel
theorem dX6_isSameBy_5 : decode cX6_isSameBy 5 = .ok (.if_icmp .ge 28, 3) := by decide +kernel
theorem dX6_isSameBy_8 : decode cX6_isSameBy 8 = .ok (.aload_n 0, 1) := by decide +kernel
theorem dX6_isSameBy_9 : decode cX6_isSameBy 9 = .ok (.getfield 15, 3) := by decide +kernel
theorem dX6_isSameBy_12 : decode cX6_isSameBy 12 = .ok (.iload_n 2, 1) := by decide +kernel
theorem dX6_isSameBy_13 : decode cX6_isSameBy 13 = .ok (.iaload, 1) := by decide +kernel
theorem dX6_isSameBy_14 : decode cX6_isSameBy 14 = .ok (.aload_n 0, 1) := by decide +kernel
theorem dX6_isSameBy_15 : decode cX6_isSameBy 15 = .ok (.getfield 15, 3) := by decide +kernel
theorem dX6_isSameBy_18 : decode cX6_isSameBy 18 = .ok (.aload_n 1, 1) := by decide +kernel
theorem dX6_isSameBy_19 : decode cX6_isSameBy 19 = .ok (.iload_n 2, 1) := by decide +kernel
theorem dX6_isSameBy_20 : decode cX6_isSameBy 20 = .ok (.iaload, 1) := by decide +kernel
theorem dX6_isSameBy_21 : decode cX6_isSameBy 21 = .ok (.iaload, 1) := by decide +kernel
theorem dX6_isSameBy_22 : decode cX6_isSameBy 22 = .ok (.if_icmp .eq 5, 3) := by decide +kernel
theorem dX6_isSameBy_27 : decode cX6_isSameBy 27 = .ok (.iinc 2 1, 3) := by decide +kernel
theorem dX6_isSameBy_30 : decode cX6_isSameBy 30 = .ok (.goto (-28), 3) := by decide +kernel
theorem dX6_isSameBy_25 : decode cX6_isSameBy 25 = .ok (.iconst 0, 1) := by decide +kernel
theorem dX6_isSameBy_33 : decode cX6_isSameBy 33 = .ok (.iconst 1, 1) := by decide +kernel
theorem dX6_isSameBy_34 : decode cX6_isSameBy 34 = .ok (.ireturn, 1) := by decide +kernel
theorem dX6_isSameBy_26 : decode cX6_isSameBy 26 = .ok (.ireturn, 1) := by decide +kernel
theorem dX6_isSameAs_0 : decode cX6_isSameAs 0 = .ok (.iconst 0, 1) := by decide +kernel
theorem dX6_isSameAs_1 : decode cX6_isSameAs 1 = .ok (.istore_n 2, 1) := by decide +kernel
theorem dX6_isSameAs_2 : decode cX6_isSameAs 2 = .ok (.iload_n 2, 1) := by decide +kernel
theorem dX6_isSameAs_3 : decode cX6_isSameAs 3 = .ok (.bipush 8, 2) := by decide +kernel
theorem dX6_isSameAs_5 : decode cX6_isSameAs 5 = .ok (.if_icmp .ge 26, 3) := by decide +kernel
theorem dX6_isSameAs_8 : decode cX6_isSameAs 8 = .ok (.aload_n 0, 1) := by decide +kernel
theorem dX6_isSameAs_9 : decode cX6_isSameAs 9 = .ok (.getfield 15, 3) := by decide +kernel
theorem dX6_isSameAs_12 : decode cX6_isSameAs 12 = .ok (.iload_n 2, 1) := by decide +kernel
theorem dX6_isSameAs_13 : decode cX6_isSameAs 13 = .ok (.iaload, 1) := by decide +kernel
theorem dX6_isSameAs_14 : decode cX6_isSameAs 14 = .ok (.aload_n 1, 1) := by decide +kernel
theorem dX6_isSameAs_15 : decode cX6_isSameAs 15 = .ok (.getfield 15, 3) := by decide +kernel
theorem dX6_isSameAs_18 : decode cX6_isSameAs 18 = .ok (.iload_n 2, 1) := by decide +kernel
theorem dX6_isSameAs_19 : decode cX6_isSameAs 19 = .ok (.iaload, 1) := by decide +kernel
theorem dX6_isSameAs_20 : decode cX6_isSameAs 20 = .ok (.if_icmp .eq 5, 3) := by decide +kernel
theorem dX6_isSameAs_25 : decode cX6_isSameAs 25 = .ok (.iinc 2 1, 3) := by decide +kernel
theorem dX6_isSameAs_28 : decode cX6_isSameAs 28 = .ok (.goto (-26), 3) := by decide +kernel
theorem dX6_isSameAs_23 : decode cX6_isSameAs 23 = .ok (.iconst 0, 1) := by decide +kernel
theorem dX6_isSameAs_31 : decode cX6_isSameAs 31 = .ok (.aload_n 0, 1) := by decide +kernel
theorem dX6_isSameAs_32 : decode cX6_isSameAs 32 = .ok (.getfield 21, 3) := by decide +kernel
theorem w_558 : Cond.fieldLink "QuarterWalks$StepSet" 21 "QuarterWalks$StepSet" "startX" "I" ∈ wAll := wI2 223 (by decide +kernel) (by decide +kernel)
theorem fl_X6_21 : fl RX6 21 7 1 := ⟨RX6, TX6, 4, rfl, inA_X6, by decide, w_558⟩
theorem dX6_isSameAs_35 : decode cX6_isSameAs 35 = .ok (.aload_n 1, 1) := by decide +kernel
theorem dX6_isSameAs_36 : decode cX6_isSameAs 36 = .ok (.getfield 21, 3) := by decide +kernel
theorem dX6_isSameAs_39 : decode cX6_isSameAs 39 = .ok (.if_icmp .ne 18, 3) := by decide +kernel
theorem dX6_isSameAs_57 : decode cX6_isSameAs 57 = .ok (.iconst 0, 1) := by decide +kernel
theorem dX6_isSameAs_42 : decode cX6_isSameAs 42 = .ok (.aload_n 0, 1) := by decide +kernel
theorem dX6_isSameAs_43 : decode cX6_isSameAs 43 = .ok (.getfield 25, 3) := by decide +kernel
theorem w_562 : Cond.fieldLink "QuarterWalks$StepSet" 25 "QuarterWalks$StepSet" "startY" "I" ∈ wAll := wI2 227 (by decide +kernel) (by decide +kernel)
theorem fl_X6_25 : fl RX6 25 7 2 := ⟨RX6, TX6, 4, rfl, inA_X6, by decide, w_562⟩
theorem dX6_isSameAs_46 : decode cX6_isSameAs 46 = .ok (.aload_n 1, 1) := by decide +kernel
theorem dX6_isSameAs_47 : decode cX6_isSameAs 47 = .ok (.getfield 25, 3) := by decide +kernel
theorem dX6_isSameAs_50 : decode cX6_isSameAs 50 = .ok (.if_icmp .ne 7, 3) := by decide +kernel
theorem dX6_isSameAs_53 : decode cX6_isSameAs 53 = .ok (.iconst 1, 1) := by decide +kernel
theorem dX6_isSameAs_54 : decode cX6_isSameAs 54 = .ok (.goto 4, 3) := by decide +kernel
theorem dX6_isSameAs_58 : decode cX6_isSameAs 58 = .ok (.ireturn, 1) := by decide +kernel
theorem dX6_isSameAs_24 : decode cX6_isSameAs 24 = .ok (.ireturn, 1) := by decide +kernel
theorem dX0_size_0 : decode cX0_size 0 = .ok (.aload_n 0, 1) := by decide +kernel
theorem dX0_size_1 : decode cX0_size 1 = .ok (.getfield 12, 3) := by decide +kernel
theorem w_193 : Cond.lays "QuarterWalks$Book" "QuarterWalks$Book" "past" "I" ∈ wAll := wI1 98 (by decide +kernel) (by decide +kernel)
theorem w_195 : Cond.laysFinal "QuarterWalks$Book" "QuarterWalks$Book" "now" "LQuarterWalks$Shelf;" ∈ wAll := wI1 100 (by decide +kernel) (by decide +kernel)
theorem w_197 : Cond.laysFinal "QuarterWalks$Book" "QuarterWalks$Book" "kept" "LQuarterWalks$Shelf;" ∈ wAll := wI1 102 (by decide +kernel) (by decide +kernel)
theorem w_199 : Cond.laysFinal "QuarterWalks$Book" "QuarterWalks$Book" "before" "[LQuarterWalks$Shelf;" ∈ wAll := wI1 104 (by decide +kernel) (by decide +kernel)
theorem w_201 : Cond.lays "QuarterWalks$Book" "QuarterWalks$Book" "isKept" "Z" ∈ wAll := wI1 106 (by decide +kernel) (by decide +kernel)
theorem w_203 : Cond.lays "QuarterWalks$Book" "QuarterWalks$Book" "next" "I" ∈ wAll := wI1 108 (by decide +kernel) (by decide +kernel)
theorem inA_X0 : ∀ w ∈ u_ws RX0 TX0 6, w ∈ wAll := List.forall_mem_cons.mpr ⟨w_193, List.forall_mem_cons.mpr ⟨w_195, List.forall_mem_cons.mpr ⟨w_197, List.forall_mem_cons.mpr ⟨w_199, List.forall_mem_cons.mpr ⟨w_201, List.forall_mem_cons.mpr ⟨w_203, fun _ h => absurd h List.not_mem_nil⟩⟩⟩⟩⟩⟩
theorem w_188 : Cond.fieldLink "QuarterWalks$Book" 12 "QuarterWalks$Book" "now" "LQuarterWalks$Shelf;" ∈ wAll := wI1 93 (by decide +kernel) (by decide +kernel)
theorem fl_X0_12 : fl RX0 12 1 1 := ⟨RX0, TX0, 6, rfl, inA_X0, by decide, w_188⟩
theorem dX0_size_4 : decode cX0_size 4 = .ok (.getfield 25, 3) := by decide +kernel
theorem w_180 : Cond.laysFinal "QuarterWalks$Shelf" "QuarterWalks$Shelf" "sets" "[LQuarterWalks$StepSet;" ∈ wAll := wI1 85 (by decide +kernel) (by decide +kernel)
theorem w_182 : Cond.lays "QuarterWalks$Shelf" "QuarterWalks$Shelf" "size" "I" ∈ wAll := wI1 87 (by decide +kernel) (by decide +kernel)
theorem inA_X5 : ∀ w ∈ u_ws RX5 TX5 2, w ∈ wAll := List.forall_mem_cons.mpr ⟨w_180, List.forall_mem_cons.mpr ⟨w_182, fun _ h => absurd h List.not_mem_nil⟩⟩
theorem w_178 : Cond.fieldLink "QuarterWalks$Book" 25 "QuarterWalks$Shelf" "size" "I" ∈ wAll := wI1 83 (by decide +kernel) (by decide +kernel)
theorem fl_X0_25 : fl RX0 25 6 1 := ⟨RX5, TX5, 2, rfl, inA_X5, by decide, w_178⟩
theorem dX0_size_7 : decode cX0_size 7 = .ok (.ireturn, 1) := by decide +kernel
theorem dX0_isFull_0 : decode cX0_isFull 0 = .ok (.aload_n 0, 1) := by decide +kernel
theorem dX0_isFull_1 : decode cX0_isFull 1 = .ok (.getfield 12, 3) := by decide +kernel
theorem dX0_isFull_4 : decode cX0_isFull 4 = .ok (.getfield 25, 3) := by decide +kernel
theorem dX0_isFull_7 : decode cX0_isFull 7 = .ok (.bipush 8, 2) := by decide +kernel
theorem dX0_isFull_9 : decode cX0_isFull 9 = .ok (.if_icmp .lt 7, 3) := by decide +kernel
theorem dX0_isFull_16 : decode cX0_isFull 16 = .ok (.iconst 0, 1) := by decide +kernel
theorem dX0_isFull_12 : decode cX0_isFull 12 = .ok (.iconst 1, 1) := by decide +kernel
theorem dX0_isFull_13 : decode cX0_isFull 13 = .ok (.goto 4, 3) := by decide +kernel
theorem dX0_isFull_17 : decode cX0_isFull 17 = .ok (.ireturn, 1) := by decide +kernel
theorem dX0_find_0 : decode cX0_find 0 = .ok (.iload_n 1, 1) := by decide +kernel
theorem dX0_find_1 : decode cX0_find 1 = .ok (.iconst 0, 1) := by decide +kernel
theorem dX0_find_2 : decode cX0_find 2 = .ok (.aload_n 0, 1) := by decide +kernel
theorem dX0_find_3 : decode cX0_find 3 = .ok (.getfield 12, 3) := by decide +kernel
theorem dX0_find_6 : decode cX0_find 6 = .ok (.getfield 25, 3) := by decide +kernel
theorem dX0_find_9 : decode cX0_find 9 = .ok (.iconst 1, 1) := by decide +kernel
theorem dX0_find_10 : decode cX0_find 10 = .ok (.isub, 1) := by decide +kernel
theorem dX0_find_11 : decode cX0_find 11 = .ok (.invokestatic 29, 3) := by decide +kernel
theorem dX0_find_14 : decode cX0_find 14 = .ok (.ifCond .eq 15, 3) := by decide +kernel
theorem dX0_find_29 : decode cX0_find 29 = .ok (.aconst_null, 1) := by decide +kernel
theorem dX0_find_17 : decode cX0_find 17 = .ok (.aload_n 0, 1) := by decide +kernel
theorem dX0_find_18 : decode cX0_find 18 = .ok (.getfield 12, 3) := by decide +kernel
theorem dX0_find_21 : decode cX0_find 21 = .ok (.getfield 33, 3) := by decide +kernel
theorem w_177 : Cond.fieldLink "QuarterWalks$Book" 33 "QuarterWalks$Shelf" "sets" "[LQuarterWalks$StepSet;" ∈ wAll := wI1 82 (by decide +kernel) (by decide +kernel)
theorem fl_X0_33 : fl RX0 33 6 0 := ⟨RX5, TX5, 2, rfl, inA_X5, by decide, w_177⟩
theorem dX0_find_24 : decode cX0_find 24 = .ok (.iload_n 1, 1) := by decide +kernel
theorem dX0_find_25 : decode cX0_find 25 = .ok (.aaload, 1) := by decide +kernel
theorem dX0_find_26 : decode cX0_find 26 = .ok (.goto 4, 3) := by decide +kernel
theorem dX0_find_30 : decode cX0_find 30 = .ok (.areturn, 1) := by decide +kernel
theorem dX1_holds_0 : decode cX1_holds 0 = .ok (.iload_n 1, 1) := by decide +kernel
theorem dX1_holds_1 : decode cX1_holds 1 = .ok (.aload_n 0, 1) := by decide +kernel
theorem dX1_holds_2 : decode cX1_holds 2 = .ok (.getfield 7, 3) := by decide +kernel
theorem w_226 : Cond.lays "QuarterWalks$Box" "QuarterWalks$Box" "left" "I" ∈ wAll := wI1 131 (by decide +kernel) (by decide +kernel)
theorem w_228 : Cond.lays "QuarterWalks$Box" "QuarterWalks$Box" "bottom" "I" ∈ wAll := wI1 133 (by decide +kernel) (by decide +kernel)
theorem w_230 : Cond.lays "QuarterWalks$Box" "QuarterWalks$Box" "right" "I" ∈ wAll := wI1 135 (by decide +kernel) (by decide +kernel)
theorem w_232 : Cond.lays "QuarterWalks$Box" "QuarterWalks$Box" "top" "I" ∈ wAll := wI1 137 (by decide +kernel) (by decide +kernel)
theorem inA_X1 : ∀ w ∈ u_ws RX1 TX1 4, w ∈ wAll := List.forall_mem_cons.mpr ⟨w_226, List.forall_mem_cons.mpr ⟨w_228, List.forall_mem_cons.mpr ⟨w_230, List.forall_mem_cons.mpr ⟨w_232, fun _ h => absurd h List.not_mem_nil⟩⟩⟩⟩
theorem w_218 : Cond.fieldLink "QuarterWalks$Box" 7 "QuarterWalks$Box" "left" "I" ∈ wAll := wI1 123 (by decide +kernel) (by decide +kernel)
theorem fl_X1_7 : fl RX1 7 2 0 := ⟨RX1, TX1, 4, rfl, inA_X1, by decide, w_218⟩
theorem dX1_holds_5 : decode cX1_holds 5 = .ok (.if_icmp .lt 31, 3) := by decide +kernel
theorem dX1_holds_36 : decode cX1_holds 36 = .ok (.iconst 0, 1) := by decide +kernel
theorem dX1_holds_8 : decode cX1_holds 8 = .ok (.iload_n 1, 1) := by decide +kernel
theorem dX1_holds_9 : decode cX1_holds 9 = .ok (.aload_n 0, 1) := by decide +kernel
theorem dX1_holds_10 : decode cX1_holds 10 = .ok (.getfield 13, 3) := by decide +kernel
theorem w_222 : Cond.fieldLink "QuarterWalks$Box" 13 "QuarterWalks$Box" "right" "I" ∈ wAll := wI1 127 (by decide +kernel) (by decide +kernel)
theorem fl_X1_13 : fl RX1 13 2 2 := ⟨RX1, TX1, 4, rfl, inA_X1, by decide, w_222⟩
theorem dX1_holds_13 : decode cX1_holds 13 = .ok (.if_icmp .gt 23, 3) := by decide +kernel
theorem dX1_holds_16 : decode cX1_holds 16 = .ok (.iload_n 2, 1) := by decide +kernel
theorem dX1_holds_17 : decode cX1_holds 17 = .ok (.aload_n 0, 1) := by decide +kernel
theorem dX1_holds_18 : decode cX1_holds 18 = .ok (.getfield 16, 3) := by decide +kernel
theorem w_220 : Cond.fieldLink "QuarterWalks$Box" 16 "QuarterWalks$Box" "bottom" "I" ∈ wAll := wI1 125 (by decide +kernel) (by decide +kernel)
theorem fl_X1_16 : fl RX1 16 2 1 := ⟨RX1, TX1, 4, rfl, inA_X1, by decide, w_220⟩
theorem dX1_holds_21 : decode cX1_holds 21 = .ok (.if_icmp .lt 15, 3) := by decide +kernel
theorem dX1_holds_24 : decode cX1_holds 24 = .ok (.iload_n 2, 1) := by decide +kernel
theorem dX1_holds_25 : decode cX1_holds 25 = .ok (.aload_n 0, 1) := by decide +kernel
theorem dX1_holds_26 : decode cX1_holds 26 = .ok (.getfield 19, 3) := by decide +kernel
theorem w_224 : Cond.fieldLink "QuarterWalks$Box" 19 "QuarterWalks$Box" "top" "I" ∈ wAll := wI1 129 (by decide +kernel) (by decide +kernel)
theorem fl_X1_19 : fl RX1 19 2 3 := ⟨RX1, TX1, 4, rfl, inA_X1, by decide, w_224⟩
theorem dX1_holds_29 : decode cX1_holds 29 = .ok (.if_icmp .gt 7, 3) := by decide +kernel
theorem dX1_holds_32 : decode cX1_holds 32 = .ok (.iconst 1, 1) := by decide +kernel
theorem dX1_holds_33 : decode cX1_holds 33 = .ok (.goto 4, 3) := by decide +kernel
theorem dX1_holds_37 : decode cX1_holds 37 = .ok (.ireturn, 1) := by decide +kernel
theorem dJ6_bitCount_0f7a4_0 : decode cJ6_bitCount_0f7a4 0 = .ok (.iload_n 0, 1) := by decide +kernel
theorem dJ6_bitCount_0f7a4_1 : decode cJ6_bitCount_0f7a4 1 = .ok (.iload_n 0, 1) := by decide +kernel
theorem dJ6_bitCount_0f7a4_2 : decode cJ6_bitCount_0f7a4 2 = .ok (.iconst 1, 1) := by decide +kernel
theorem dJ6_bitCount_0f7a4_3 : decode cJ6_bitCount_0f7a4 3 = .ok (.iushr, 1) := by decide +kernel
theorem dJ6_bitCount_0f7a4_4 : decode cJ6_bitCount_0f7a4 4 = .ok (.ldc_w 265, 3) := by decide +kernel
theorem w_1345 : Cond.constant "java/lang/Integer" 265 1431655765 ∈ wAll := wI6 50 (by decide +kernel) (by decide +kernel)
theorem dJ6_bitCount_0f7a4_7 : decode cJ6_bitCount_0f7a4 7 = .ok (.iand, 1) := by decide +kernel
theorem dJ6_bitCount_0f7a4_8 : decode cJ6_bitCount_0f7a4 8 = .ok (.isub, 1) := by decide +kernel
theorem dJ6_bitCount_0f7a4_9 : decode cJ6_bitCount_0f7a4 9 = .ok (.istore_n 0, 1) := by decide +kernel
theorem dJ6_bitCount_0f7a4_10 : decode cJ6_bitCount_0f7a4 10 = .ok (.iload_n 0, 1) := by decide +kernel
theorem dJ6_bitCount_0f7a4_11 : decode cJ6_bitCount_0f7a4 11 = .ok (.ldc_w 266, 3) := by decide +kernel
theorem w_1346 : Cond.constant "java/lang/Integer" 266 858993459 ∈ wAll := wI6 51 (by decide +kernel) (by decide +kernel)
theorem dJ6_bitCount_0f7a4_14 : decode cJ6_bitCount_0f7a4 14 = .ok (.iand, 1) := by decide +kernel
theorem dJ6_bitCount_0f7a4_15 : decode cJ6_bitCount_0f7a4 15 = .ok (.iload_n 0, 1) := by decide +kernel
theorem dJ6_bitCount_0f7a4_16 : decode cJ6_bitCount_0f7a4 16 = .ok (.iconst 2, 1) := by decide +kernel
theorem dJ6_bitCount_0f7a4_17 : decode cJ6_bitCount_0f7a4 17 = .ok (.iushr, 1) := by decide +kernel
theorem dJ6_bitCount_0f7a4_18 : decode cJ6_bitCount_0f7a4 18 = .ok (.ldc_w 266, 3) := by decide +kernel
theorem dJ6_bitCount_0f7a4_21 : decode cJ6_bitCount_0f7a4 21 = .ok (.iand, 1) := by decide +kernel
theorem dJ6_bitCount_0f7a4_22 : decode cJ6_bitCount_0f7a4 22 = .ok (.iadd, 1) := by decide +kernel
theorem dJ6_bitCount_0f7a4_23 : decode cJ6_bitCount_0f7a4 23 = .ok (.istore_n 0, 1) := by decide +kernel
theorem dJ6_bitCount_0f7a4_24 : decode cJ6_bitCount_0f7a4 24 = .ok (.iload_n 0, 1) := by decide +kernel
theorem dJ6_bitCount_0f7a4_25 : decode cJ6_bitCount_0f7a4 25 = .ok (.iload_n 0, 1) := by decide +kernel
theorem dJ6_bitCount_0f7a4_26 : decode cJ6_bitCount_0f7a4 26 = .ok (.iconst 4, 1) := by decide +kernel
theorem dJ6_bitCount_0f7a4_27 : decode cJ6_bitCount_0f7a4 27 = .ok (.iushr, 1) := by decide +kernel
theorem dJ6_bitCount_0f7a4_28 : decode cJ6_bitCount_0f7a4 28 = .ok (.iadd, 1) := by decide +kernel
theorem dJ6_bitCount_0f7a4_29 : decode cJ6_bitCount_0f7a4 29 = .ok (.ldc_w 267, 3) := by decide +kernel
theorem w_1347 : Cond.constant "java/lang/Integer" 267 252645135 ∈ wAll := wI6 52 (by decide +kernel) (by decide +kernel)
theorem dJ6_bitCount_0f7a4_32 : decode cJ6_bitCount_0f7a4 32 = .ok (.iand, 1) := by decide +kernel
theorem dJ6_bitCount_0f7a4_33 : decode cJ6_bitCount_0f7a4 33 = .ok (.istore_n 0, 1) := by decide +kernel
theorem dJ6_bitCount_0f7a4_34 : decode cJ6_bitCount_0f7a4 34 = .ok (.iload_n 0, 1) := by decide +kernel
theorem dJ6_bitCount_0f7a4_35 : decode cJ6_bitCount_0f7a4 35 = .ok (.iload_n 0, 1) := by decide +kernel
theorem dJ6_bitCount_0f7a4_36 : decode cJ6_bitCount_0f7a4 36 = .ok (.bipush 8, 2) := by decide +kernel
theorem dJ6_bitCount_0f7a4_38 : decode cJ6_bitCount_0f7a4 38 = .ok (.iushr, 1) := by decide +kernel
theorem dJ6_bitCount_0f7a4_39 : decode cJ6_bitCount_0f7a4 39 = .ok (.iadd, 1) := by decide +kernel
theorem dJ6_bitCount_0f7a4_40 : decode cJ6_bitCount_0f7a4 40 = .ok (.istore_n 0, 1) := by decide +kernel
theorem dJ6_bitCount_0f7a4_41 : decode cJ6_bitCount_0f7a4 41 = .ok (.iload_n 0, 1) := by decide +kernel
theorem dJ6_bitCount_0f7a4_42 : decode cJ6_bitCount_0f7a4 42 = .ok (.iload_n 0, 1) := by decide +kernel
theorem dJ6_bitCount_0f7a4_43 : decode cJ6_bitCount_0f7a4 43 = .ok (.bipush 16, 2) := by decide +kernel
theorem dJ6_bitCount_0f7a4_45 : decode cJ6_bitCount_0f7a4 45 = .ok (.iushr, 1) := by decide +kernel
theorem dJ6_bitCount_0f7a4_46 : decode cJ6_bitCount_0f7a4 46 = .ok (.iadd, 1) := by decide +kernel
theorem dJ6_bitCount_0f7a4_47 : decode cJ6_bitCount_0f7a4 47 = .ok (.istore_n 0, 1) := by decide +kernel
theorem dJ6_bitCount_0f7a4_48 : decode cJ6_bitCount_0f7a4 48 = .ok (.iload_n 0, 1) := by decide +kernel
theorem dJ6_bitCount_0f7a4_49 : decode cJ6_bitCount_0f7a4 49 = .ok (.bipush 63, 2) := by decide +kernel
theorem dJ6_bitCount_0f7a4_51 : decode cJ6_bitCount_0f7a4 51 = .ok (.iand, 1) := by decide +kernel
theorem dJ6_bitCount_0f7a4_52 : decode cJ6_bitCount_0f7a4 52 = .ok (.ireturn, 1) := by decide +kernel
theorem dX8_mixed_0 : decode cX8_mixed 0 = .ok (.iload_n 0, 1) := by decide +kernel
theorem dX8_mixed_1 : decode cX8_mixed 1 = .ok (.i2l, 1) := by decide +kernel
theorem dX8_mixed_2 : decode cX8_mixed 2 = .ok (.iload_n 3, 1) := by decide +kernel
theorem dX8_mixed_3 : decode cX8_mixed 3 = .ok (.i2l, 1) := by decide +kernel
theorem dX8_mixed_4 : decode cX8_mixed 4 = .ok (.lmul, 1) := by decide +kernel
theorem dX8_mixed_5 : decode cX8_mixed 5 = .ok (.iload_n 1, 1) := by decide +kernel
theorem dX8_mixed_6 : decode cX8_mixed 6 = .ok (.i2l, 1) := by decide +kernel
theorem dX8_mixed_7 : decode cX8_mixed 7 = .ok (.ladd, 1) := by decide +kernel
theorem dX8_mixed_8 : decode cX8_mixed 8 = .ok (.iload_n 2, 1) := by decide +kernel
theorem dX8_mixed_9 : decode cX8_mixed 9 = .ok (.i2l, 1) := by decide +kernel
theorem dX8_mixed_10 : decode cX8_mixed 10 = .ok (.iload_n 3, 1) := by decide +kernel
theorem dX8_mixed_11 : decode cX8_mixed 11 = .ok (.invokestatic 31, 3) := by decide +kernel
theorem mk_X10_inverse : mk yX10_inverse 1 := ⟨by decide +kernel, w_96⟩
theorem w_810 : Cond.static yX10_inverse ∈ wAll := wI3 235 (by decide +kernel) (by decide +kernel)
theorem w_811 : Cond.code yX10_inverse cX10_inverse 6 (some .int) ∈ wAll := wI3 236 (by decide +kernel) (by decide +kernel)
theorem dX8_mixed_14 : decode cX8_mixed 14 = .ok (.i2l, 1) := by decide +kernel
theorem dX8_mixed_15 : decode cX8_mixed 15 = .ok (.lmul, 1) := by decide +kernel
theorem dX8_mixed_16 : decode cX8_mixed 16 = .ok (.ladd, 1) := by decide +kernel
theorem dX8_mixed_17 : decode cX8_mixed 17 = .ok (.invokestatic 35, 3) := by decide +kernel
theorem mk_X10_residue : mk yX10_residue 1 := ⟨by decide +kernel, w_96⟩
theorem w_741 : Cond.static yX10_residue ∈ wAll := wI3 166 (by decide +kernel) (by decide +kernel)
theorem w_742 : Cond.code yX10_residue cX10_residue 4 (some .int) ∈ wAll := wI3 167 (by decide +kernel) (by decide +kernel)
theorem dX8_mixed_20 : decode cX8_mixed 20 = .ok (.ireturn, 1) := by decide +kernel
theorem dX8_quotient_0 : decode cX8_quotient 0 = .ok (.iload_n 0, 1) := by decide +kernel
theorem dX8_quotient_1 : decode cX8_quotient 1 = .ok (.ifCond .eq 7, 3) := by decide +kernel
theorem dX8_quotient_8 : decode cX8_quotient 8 = .ok (.iconst (-1), 1) := by decide +kernel
theorem dX8_quotient_9 : decode cX8_quotient 9 = .ok (.goto 19, 3) := by decide +kernel
theorem dX8_quotient_4 : decode cX8_quotient 4 = .ok (.iload_n 1, 1) := by decide +kernel
theorem dX8_quotient_5 : decode cX8_quotient 5 = .ok (.ifCond .ne 7, 3) := by decide +kernel
theorem dX8_quotient_12 : decode cX8_quotient 12 = .ok (.iload_n 0, 1) := by decide +kernel
theorem dX8_quotient_13 : decode cX8_quotient 13 = .ok (.i2l, 1) := by decide +kernel
theorem dX8_quotient_14 : decode cX8_quotient 14 = .ok (.iload_n 1, 1) := by decide +kernel
theorem dX8_quotient_15 : decode cX8_quotient 15 = .ok (.i2l, 1) := by decide +kernel
theorem dX8_quotient_16 : decode cX8_quotient 16 = .ok (.iload_n 2, 1) := by decide +kernel
theorem dX8_quotient_17 : decode cX8_quotient 17 = .ok (.i2l, 1) := by decide +kernel
theorem dX8_quotient_18 : decode cX8_quotient 18 = .ok (.invokestatic 27, 3) := by decide +kernel
theorem mk_X10_times : mk yX10_times 2 := ⟨by decide +kernel, w_96⟩
theorem w_807 : Cond.static yX10_times ∈ wAll := wI3 232 (by decide +kernel) (by decide +kernel)
theorem w_808 : Cond.code yX10_times cX10_times 4 (some .int) ∈ wAll := wI3 233 (by decide +kernel) (by decide +kernel)
theorem dX8_quotient_21 : decode cX8_quotient 21 = .ok (.invokestatic 31, 3) := by decide +kernel
theorem dX8_quotient_24 : decode cX8_quotient 24 = .ok (.i2l, 1) := by decide +kernel
theorem dX8_quotient_25 : decode cX8_quotient 25 = .ok (.invokestatic 27, 3) := by decide +kernel
theorem dX8_quotient_28 : decode cX8_quotient 28 = .ok (.ireturn, 1) := by decide +kernel
theorem dX8_kernelAt_0 : decode cX8_kernelAt 0 = .ok (.aload_n 0, 1) := by decide +kernel
theorem dX8_kernelAt_1 : decode cX8_kernelAt 1 = .ok (.getfield 18, 3) := by decide +kernel
theorem w_554 : Cond.fieldLink "QuarterWalks$Turns" 18 "QuarterWalks$StepSet" "weights" "[I" ∈ wAll := wI2 219 (by decide +kernel) (by decide +kernel)
theorem fl_X8_18 : fl RX8 18 7 0 := ⟨RX6, TX6, 4, rfl, inA_X6, by decide, w_554⟩
theorem dX8_kernelAt_4 : decode cX8_kernelAt 4 = .ok (.astore_n 3, 1) := by decide +kernel
theorem dX8_kernelAt_5 : decode cX8_kernelAt 5 = .ok (.aload_n 3, 1) := by decide +kernel
theorem dX8_kernelAt_6 : decode cX8_kernelAt 6 = .ok (.iconst 1, 1) := by decide +kernel
theorem dX8_kernelAt_7 : decode cX8_kernelAt 7 = .ok (.iaload, 1) := by decide +kernel
theorem dX8_kernelAt_8 : decode cX8_kernelAt 8 = .ok (.aload_n 3, 1) := by decide +kernel
theorem dX8_kernelAt_9 : decode cX8_kernelAt 9 = .ok (.iconst 2, 1) := by decide +kernel
theorem dX8_kernelAt_10 : decode cX8_kernelAt 10 = .ok (.iaload, 1) := by decide +kernel
theorem dX8_kernelAt_11 : decode cX8_kernelAt 11 = .ok (.aload_n 3, 1) := by decide +kernel
theorem dX8_kernelAt_12 : decode cX8_kernelAt 12 = .ok (.iconst 3, 1) := by decide +kernel
theorem dX8_kernelAt_13 : decode cX8_kernelAt 13 = .ok (.iaload, 1) := by decide +kernel
theorem dX8_kernelAt_14 : decode cX8_kernelAt 14 = .ok (.iload_n 2, 1) := by decide +kernel
theorem dX8_kernelAt_15 : decode cX8_kernelAt 15 = .ok (.invokestatic 23, 3) := by decide +kernel
theorem w_947 : Cond.methodLink "QuarterWalks$Turns" 23 yX8_mixed ∈ wAll := wI4 132 (by decide +kernel) (by decide +kernel)
theorem w_103 : Cond.initialized "QuarterWalks$Turns" ∈ wAll := wI1 8 (by decide +kernel) (by decide +kernel)
theorem mk_X8_mixed : mk yX8_mixed 4 := ⟨by decide +kernel, w_103⟩
theorem w_948 : Cond.static yX8_mixed ∈ wAll := wI4 133 (by decide +kernel) (by decide +kernel)
theorem w_949 : Cond.code yX8_mixed cX8_mixed 4 (some .int) ∈ wAll := wI4 134 (by decide +kernel) (by decide +kernel)
theorem dX8_kernelAt_18 : decode cX8_kernelAt 18 = .ok (.i2l, 1) := by decide +kernel
theorem dX8_kernelAt_19 : decode cX8_kernelAt 19 = .ok (.iload_n 1, 1) := by decide +kernel
theorem dX8_kernelAt_20 : decode cX8_kernelAt 20 = .ok (.i2l, 1) := by decide +kernel
theorem dX8_kernelAt_21 : decode cX8_kernelAt 21 = .ok (.invokestatic 27, 3) := by decide +kernel
theorem dX8_kernelAt_24 : decode cX8_kernelAt 24 = .ok (.i2l, 1) := by decide +kernel
theorem dX8_kernelAt_25 : decode cX8_kernelAt 25 = .ok (.aload_n 3, 1) := by decide +kernel
theorem dX8_kernelAt_26 : decode cX8_kernelAt 26 = .ok (.bipush 7, 2) := by decide +kernel
theorem dX8_kernelAt_28 : decode cX8_kernelAt 28 = .ok (.iaload, 1) := by decide +kernel
theorem dX8_kernelAt_29 : decode cX8_kernelAt 29 = .ok (.aload_n 3, 1) := by decide +kernel
theorem dX8_kernelAt_30 : decode cX8_kernelAt 30 = .ok (.bipush 6, 2) := by decide +kernel
theorem dX8_kernelAt_32 : decode cX8_kernelAt 32 = .ok (.iaload, 1) := by decide +kernel
theorem dX8_kernelAt_33 : decode cX8_kernelAt 33 = .ok (.aload_n 3, 1) := by decide +kernel
theorem dX8_kernelAt_34 : decode cX8_kernelAt 34 = .ok (.iconst 5, 1) := by decide +kernel
theorem dX8_kernelAt_35 : decode cX8_kernelAt 35 = .ok (.iaload, 1) := by decide +kernel
theorem dX8_kernelAt_36 : decode cX8_kernelAt 36 = .ok (.iload_n 2, 1) := by decide +kernel
theorem dX8_kernelAt_37 : decode cX8_kernelAt 37 = .ok (.invokestatic 23, 3) := by decide +kernel
theorem dX8_kernelAt_40 : decode cX8_kernelAt 40 = .ok (.i2l, 1) := by decide +kernel
theorem dX8_kernelAt_41 : decode cX8_kernelAt 41 = .ok (.iload_n 1, 1) := by decide +kernel
theorem dX8_kernelAt_42 : decode cX8_kernelAt 42 = .ok (.invokestatic 31, 3) := by decide +kernel
theorem dX8_kernelAt_45 : decode cX8_kernelAt 45 = .ok (.i2l, 1) := by decide +kernel
theorem dX8_kernelAt_46 : decode cX8_kernelAt 46 = .ok (.invokestatic 27, 3) := by decide +kernel
theorem dX8_kernelAt_49 : decode cX8_kernelAt 49 = .ok (.i2l, 1) := by decide +kernel
theorem dX8_kernelAt_50 : decode cX8_kernelAt 50 = .ok (.ladd, 1) := by decide +kernel
theorem dX8_kernelAt_51 : decode cX8_kernelAt 51 = .ok (.lstore 4, 2) := by decide +kernel
theorem dX8_kernelAt_53 : decode cX8_kernelAt 53 = .ok (.lload 4, 2) := by decide +kernel
theorem dX8_kernelAt_55 : decode cX8_kernelAt 55 = .ok (.aload_n 3, 1) := by decide +kernel
theorem dX8_kernelAt_56 : decode cX8_kernelAt 56 = .ok (.iconst 0, 1) := by decide +kernel
theorem dX8_kernelAt_57 : decode cX8_kernelAt 57 = .ok (.iaload, 1) := by decide +kernel
theorem dX8_kernelAt_58 : decode cX8_kernelAt 58 = .ok (.iconst 0, 1) := by decide +kernel
theorem dX8_kernelAt_59 : decode cX8_kernelAt 59 = .ok (.aload_n 3, 1) := by decide +kernel
theorem dX8_kernelAt_60 : decode cX8_kernelAt 60 = .ok (.iconst 4, 1) := by decide +kernel
theorem dX8_kernelAt_61 : decode cX8_kernelAt 61 = .ok (.iaload, 1) := by decide +kernel
theorem dX8_kernelAt_62 : decode cX8_kernelAt 62 = .ok (.iload_n 2, 1) := by decide +kernel
theorem dX8_kernelAt_63 : decode cX8_kernelAt 63 = .ok (.invokestatic 23, 3) := by decide +kernel
theorem dX8_kernelAt_66 : decode cX8_kernelAt 66 = .ok (.i2l, 1) := by decide +kernel
theorem dX8_kernelAt_67 : decode cX8_kernelAt 67 = .ok (.ladd, 1) := by decide +kernel
theorem dX8_kernelAt_68 : decode cX8_kernelAt 68 = .ok (.invokestatic 35, 3) := by decide +kernel
theorem dX8_kernelAt_71 : decode cX8_kernelAt 71 = .ok (.ireturn, 1) := by decide +kernel
theorem dX8_newX_0 : decode cX8_newX 0 = .ok (.aload_n 0, 1) := by decide +kernel
theorem dX8_newX_1 : decode cX8_newX 1 = .ok (.getfield 18, 3) := by decide +kernel
theorem dX8_newX_4 : decode cX8_newX 4 = .ok (.astore_n 3, 1) := by decide +kernel
theorem dX8_newX_5 : decode cX8_newX 5 = .ok (.aload_n 3, 1) := by decide +kernel
theorem dX8_newX_6 : decode cX8_newX 6 = .ok (.bipush 7, 2) := by decide +kernel
theorem dX8_newX_8 : decode cX8_newX 8 = .ok (.iaload, 1) := by decide +kernel
theorem dX8_newX_9 : decode cX8_newX 9 = .ok (.aload_n 3, 1) := by decide +kernel
theorem dX8_newX_10 : decode cX8_newX 10 = .ok (.bipush 6, 2) := by decide +kernel
theorem dX8_newX_12 : decode cX8_newX 12 = .ok (.iaload, 1) := by decide +kernel
theorem dX8_newX_13 : decode cX8_newX 13 = .ok (.aload_n 3, 1) := by decide +kernel
theorem dX8_newX_14 : decode cX8_newX 14 = .ok (.iconst 5, 1) := by decide +kernel
theorem dX8_newX_15 : decode cX8_newX 15 = .ok (.iaload, 1) := by decide +kernel
theorem dX8_newX_16 : decode cX8_newX 16 = .ok (.iload_n 2, 1) := by decide +kernel
theorem dX8_newX_17 : decode cX8_newX 17 = .ok (.invokestatic 23, 3) := by decide +kernel
theorem dX8_newX_20 : decode cX8_newX 20 = .ok (.aload_n 3, 1) := by decide +kernel
theorem dX8_newX_21 : decode cX8_newX 21 = .ok (.iconst 1, 1) := by decide +kernel
theorem dX8_newX_22 : decode cX8_newX 22 = .ok (.iaload, 1) := by decide +kernel
theorem dX8_newX_23 : decode cX8_newX 23 = .ok (.aload_n 3, 1) := by decide +kernel
theorem dX8_newX_24 : decode cX8_newX 24 = .ok (.iconst 2, 1) := by decide +kernel
theorem dX8_newX_25 : decode cX8_newX 25 = .ok (.iaload, 1) := by decide +kernel
theorem dX8_newX_26 : decode cX8_newX 26 = .ok (.aload_n 3, 1) := by decide +kernel
theorem dX8_newX_27 : decode cX8_newX 27 = .ok (.iconst 3, 1) := by decide +kernel
theorem dX8_newX_28 : decode cX8_newX 28 = .ok (.iaload, 1) := by decide +kernel
theorem dX8_newX_29 : decode cX8_newX 29 = .ok (.iload_n 2, 1) := by decide +kernel
theorem dX8_newX_30 : decode cX8_newX 30 = .ok (.invokestatic 23, 3) := by decide +kernel
theorem dX8_newX_33 : decode cX8_newX 33 = .ok (.iload_n 1, 1) := by decide +kernel
theorem dX8_newX_34 : decode cX8_newX 34 = .ok (.invokestatic 39, 3) := by decide +kernel
theorem w_960 : Cond.methodLink "QuarterWalks$Turns" 39 yX8_quotient ∈ wAll := wI4 145 (by decide +kernel) (by decide +kernel)
theorem mk_X8_quotient : mk yX8_quotient 3 := ⟨by decide +kernel, w_103⟩
theorem w_961 : Cond.static yX8_quotient ∈ wAll := wI4 146 (by decide +kernel) (by decide +kernel)
theorem w_962 : Cond.code yX8_quotient cX8_quotient 3 (some .int) ∈ wAll := wI4 147 (by decide +kernel) (by decide +kernel)
theorem dX8_newX_37 : decode cX8_newX 37 = .ok (.ireturn, 1) := by decide +kernel
theorem dX8_newY_0 : decode cX8_newY 0 = .ok (.aload_n 0, 1) := by decide +kernel
theorem dX8_newY_1 : decode cX8_newY 1 = .ok (.getfield 18, 3) := by decide +kernel
theorem dX8_newY_4 : decode cX8_newY 4 = .ok (.astore_n 3, 1) := by decide +kernel
theorem dX8_newY_5 : decode cX8_newY 5 = .ok (.aload_n 3, 1) := by decide +kernel
theorem dX8_newY_6 : decode cX8_newY 6 = .ok (.iconst 3, 1) := by decide +kernel
theorem dX8_newY_7 : decode cX8_newY 7 = .ok (.iaload, 1) := by decide +kernel
theorem dX8_newY_8 : decode cX8_newY 8 = .ok (.aload_n 3, 1) := by decide +kernel
theorem dX8_newY_9 : decode cX8_newY 9 = .ok (.iconst 4, 1) := by decide +kernel
theorem dX8_newY_10 : decode cX8_newY 10 = .ok (.iaload, 1) := by decide +kernel
theorem dX8_newY_11 : decode cX8_newY 11 = .ok (.aload_n 3, 1) := by decide +kernel
theorem dX8_newY_12 : decode cX8_newY 12 = .ok (.iconst 5, 1) := by decide +kernel
theorem dX8_newY_13 : decode cX8_newY 13 = .ok (.iaload, 1) := by decide +kernel
theorem dX8_newY_14 : decode cX8_newY 14 = .ok (.iload_n 1, 1) := by decide +kernel
theorem dX8_newY_15 : decode cX8_newY 15 = .ok (.invokestatic 23, 3) := by decide +kernel
theorem dX8_newY_18 : decode cX8_newY 18 = .ok (.aload_n 3, 1) := by decide +kernel
theorem dX8_newY_19 : decode cX8_newY 19 = .ok (.iconst 1, 1) := by decide +kernel
theorem dX8_newY_20 : decode cX8_newY 20 = .ok (.iaload, 1) := by decide +kernel
theorem dX8_newY_21 : decode cX8_newY 21 = .ok (.aload_n 3, 1) := by decide +kernel
theorem dX8_newY_22 : decode cX8_newY 22 = .ok (.iconst 0, 1) := by decide +kernel
theorem dX8_newY_23 : decode cX8_newY 23 = .ok (.iaload, 1) := by decide +kernel
theorem dX8_newY_24 : decode cX8_newY 24 = .ok (.aload_n 3, 1) := by decide +kernel
theorem dX8_newY_25 : decode cX8_newY 25 = .ok (.bipush 7, 2) := by decide +kernel
theorem dX8_newY_27 : decode cX8_newY 27 = .ok (.iaload, 1) := by decide +kernel
theorem dX8_newY_28 : decode cX8_newY 28 = .ok (.iload_n 1, 1) := by decide +kernel
theorem dX8_newY_29 : decode cX8_newY 29 = .ok (.invokestatic 23, 3) := by decide +kernel
theorem dX8_newY_32 : decode cX8_newY 32 = .ok (.iload_n 2, 1) := by decide +kernel
theorem dX8_newY_33 : decode cX8_newY 33 = .ok (.invokestatic 39, 3) := by decide +kernel
theorem dX8_newY_36 : decode cX8_newY 36 = .ok (.ireturn, 1) := by decide +kernel
theorem dX8_follow_0 : decode cX8_follow 0 = .ok (.iload_n 2, 1) := by decide +kernel
theorem dX8_follow_1 : decode cX8_follow 1 = .ok (.istore 4, 2) := by decide +kernel
theorem dX8_follow_3 : decode cX8_follow 3 = .ok (.iload_n 3, 1) := by decide +kernel
theorem dX8_follow_4 : decode cX8_follow 4 = .ok (.istore 5, 2) := by decide +kernel
theorem dX8_follow_6 : decode cX8_follow 6 = .ok (.iconst 0, 1) := by decide +kernel
theorem dX8_follow_7 : decode cX8_follow 7 = .ok (.istore 6, 2) := by decide +kernel
theorem dX8_follow_9 : decode cX8_follow 9 = .ok (.iload 6, 2) := by decide +kernel
theorem dX8_follow_11 : decode cX8_follow 11 = .ok (.bipush 40, 2) := by decide +kernel
theorem dX8_follow_13 : decode cX8_follow 13 = .ok (.if_icmp .ge 102, 3) := by decide +kernel
theorem dX8_follow_16 : decode cX8_follow 16 = .ok (.aload_n 0, 1) := by decide +kernel
theorem dX8_follow_17 : decode cX8_follow 17 = .ok (.getfield 11, 3) := by decide +kernel
theorem w_301 : Cond.laysFinal "QuarterWalks$Turns" "QuarterWalks$Turns" "xs" "[I" ∈ wAll := wI1 206 (by decide +kernel) (by decide +kernel)
theorem w_303 : Cond.laysFinal "QuarterWalks$Turns" "QuarterWalks$Turns" "ys" "[I" ∈ wAll := wI1 208 (by decide +kernel) (by decide +kernel)
theorem inA_X8 : ∀ w ∈ u_ws RX8 TX8 2, w ∈ wAll := List.forall_mem_cons.mpr ⟨w_301, List.forall_mem_cons.mpr ⟨w_303, fun _ h => absurd h List.not_mem_nil⟩⟩
theorem w_297 : Cond.fieldLink "QuarterWalks$Turns" 11 "QuarterWalks$Turns" "xs" "[I" ∈ wAll := wI1 202 (by decide +kernel) (by decide +kernel)
theorem fl_X8_11 : fl RX8 11 9 0 := ⟨RX8, TX8, 2, rfl, inA_X8, by decide, w_297⟩
theorem dX8_follow_20 : decode cX8_follow 20 = .ok (.iload 6, 2) := by decide +kernel
theorem dX8_follow_22 : decode cX8_follow 22 = .ok (.iload 4, 2) := by decide +kernel
theorem dX8_follow_24 : decode cX8_follow 24 = .ok (.iastore, 1) := by decide +kernel
theorem dX8_follow_25 : decode cX8_follow 25 = .ok (.aload_n 0, 1) := by decide +kernel
theorem dX8_follow_26 : decode cX8_follow 26 = .ok (.getfield 15, 3) := by decide +kernel
theorem w_299 : Cond.fieldLink "QuarterWalks$Turns" 15 "QuarterWalks$Turns" "ys" "[I" ∈ wAll := wI1 204 (by decide +kernel) (by decide +kernel)
theorem fl_X8_15 : fl RX8 15 9 1 := ⟨RX8, TX8, 2, rfl, inA_X8, by decide, w_299⟩
theorem dX8_follow_29 : decode cX8_follow 29 = .ok (.iload 6, 2) := by decide +kernel
theorem dX8_follow_31 : decode cX8_follow 31 = .ok (.iload 5, 2) := by decide +kernel
theorem dX8_follow_33 : decode cX8_follow 33 = .ok (.iastore, 1) := by decide +kernel
theorem dX8_follow_34 : decode cX8_follow 34 = .ok (.aload_n 1, 1) := by decide +kernel
theorem dX8_follow_35 : decode cX8_follow 35 = .ok (.iload 4, 2) := by decide +kernel
theorem dX8_follow_37 : decode cX8_follow 37 = .ok (.iload 5, 2) := by decide +kernel
theorem dX8_follow_39 : decode cX8_follow 39 = .ok (.invokestatic 43, 3) := by decide +kernel
theorem w_974 : Cond.methodLink "QuarterWalks$Turns" 43 yX8_newX ∈ wAll := wI4 159 (by decide +kernel) (by decide +kernel)
theorem mk_X8_newX : mk yX8_newX 3 := ⟨by decide +kernel, w_103⟩
theorem w_958 : Cond.static yX8_newX ∈ wAll := wI4 143 (by decide +kernel) (by decide +kernel)
theorem w_959 : Cond.code yX8_newX cX8_newX 4 (some .int) ∈ wAll := wI4 144 (by decide +kernel) (by decide +kernel)
theorem dX8_follow_42 : decode cX8_follow 42 = .ok (.istore 4, 2) := by decide +kernel
theorem dX8_follow_44 : decode cX8_follow 44 = .ok (.iload 4, 2) := by decide +kernel
theorem dX8_follow_46 : decode cX8_follow 46 = .ok (.iconst (-1), 1) := by decide +kernel
theorem dX8_follow_47 : decode cX8_follow 47 = .ok (.if_icmp .ne 5, 3) := by decide +kernel
theorem dX8_follow_52 : decode cX8_follow 52 = .ok (.aload_n 0, 1) := by decide +kernel
theorem dX8_follow_53 : decode cX8_follow 53 = .ok (.getfield 11, 3) := by decide +kernel
theorem dX8_follow_56 : decode cX8_follow 56 = .ok (.iload 6, 2) := by decide +kernel
theorem dX8_follow_58 : decode cX8_follow 58 = .ok (.iconst 1, 1) := by decide +kernel
theorem dX8_follow_59 : decode cX8_follow 59 = .ok (.iadd, 1) := by decide +kernel
theorem dX8_follow_60 : decode cX8_follow 60 = .ok (.iload 4, 2) := by decide +kernel
theorem dX8_follow_62 : decode cX8_follow 62 = .ok (.iastore, 1) := by decide +kernel
theorem dX8_follow_63 : decode cX8_follow 63 = .ok (.aload_n 0, 1) := by decide +kernel
theorem dX8_follow_64 : decode cX8_follow 64 = .ok (.getfield 15, 3) := by decide +kernel
theorem dX8_follow_67 : decode cX8_follow 67 = .ok (.iload 6, 2) := by decide +kernel
theorem dX8_follow_69 : decode cX8_follow 69 = .ok (.iconst 1, 1) := by decide +kernel
theorem dX8_follow_70 : decode cX8_follow 70 = .ok (.iadd, 1) := by decide +kernel
theorem dX8_follow_71 : decode cX8_follow 71 = .ok (.iload 5, 2) := by decide +kernel
theorem dX8_follow_73 : decode cX8_follow 73 = .ok (.iastore, 1) := by decide +kernel
theorem dX8_follow_74 : decode cX8_follow 74 = .ok (.aload_n 1, 1) := by decide +kernel
theorem dX8_follow_75 : decode cX8_follow 75 = .ok (.iload 4, 2) := by decide +kernel
theorem dX8_follow_77 : decode cX8_follow 77 = .ok (.iload 5, 2) := by decide +kernel
theorem dX8_follow_79 : decode cX8_follow 79 = .ok (.invokestatic 47, 3) := by decide +kernel
theorem w_975 : Cond.methodLink "QuarterWalks$Turns" 47 yX8_newY ∈ wAll := wI4 160 (by decide +kernel) (by decide +kernel)
theorem mk_X8_newY : mk yX8_newY 3 := ⟨by decide +kernel, w_103⟩
theorem w_964 : Cond.static yX8_newY ∈ wAll := wI4 149 (by decide +kernel) (by decide +kernel)
theorem w_965 : Cond.code yX8_newY cX8_newY 4 (some .int) ∈ wAll := wI4 150 (by decide +kernel) (by decide +kernel)
theorem dX8_follow_82 : decode cX8_follow 82 = .ok (.istore 5, 2) := by decide +kernel
theorem dX8_follow_84 : decode cX8_follow 84 = .ok (.iload 5, 2) := by decide +kernel
theorem dX8_follow_86 : decode cX8_follow 86 = .ok (.iconst (-1), 1) := by decide +kernel
theorem dX8_follow_87 : decode cX8_follow 87 = .ok (.if_icmp .ne 5, 3) := by decide +kernel
theorem dX8_follow_92 : decode cX8_follow 92 = .ok (.iload 4, 2) := by decide +kernel
theorem dX8_follow_94 : decode cX8_follow 94 = .ok (.iload_n 2, 1) := by decide +kernel
theorem dX8_follow_95 : decode cX8_follow 95 = .ok (.if_icmp .ne 14, 3) := by decide +kernel
theorem dX8_follow_109 : decode cX8_follow 109 = .ok (.iinc 6 2, 3) := by decide +kernel
theorem dX8_follow_112 : decode cX8_follow 112 = .ok (.goto (-103), 3) := by decide +kernel
theorem dX8_follow_98 : decode cX8_follow 98 = .ok (.iload 5, 2) := by decide +kernel
theorem dX8_follow_100 : decode cX8_follow 100 = .ok (.iload_n 3, 1) := by decide +kernel
theorem dX8_follow_101 : decode cX8_follow 101 = .ok (.if_icmp .ne 8, 3) := by decide +kernel
theorem dX8_follow_104 : decode cX8_follow 104 = .ok (.iload 6, 2) := by decide +kernel
theorem dX8_follow_106 : decode cX8_follow 106 = .ok (.iconst 2, 1) := by decide +kernel
theorem dX8_follow_107 : decode cX8_follow 107 = .ok (.iadd, 1) := by decide +kernel
theorem dX8_follow_90 : decode cX8_follow 90 = .ok (.iconst (-1), 1) := by decide +kernel
theorem dX8_follow_50 : decode cX8_follow 50 = .ok (.iconst (-1), 1) := by decide +kernel
theorem dX8_follow_115 : decode cX8_follow 115 = .ok (.iconst (-1), 1) := by decide +kernel
theorem dX8_follow_116 : decode cX8_follow 116 = .ok (.ireturn, 1) := by decide +kernel
theorem dX8_follow_108 : decode cX8_follow 108 = .ok (.ireturn, 1) := by decide +kernel
theorem dX8_follow_91 : decode cX8_follow 91 = .ok (.ireturn, 1) := by decide +kernel
theorem dX8_follow_51 : decode cX8_follow 51 = .ok (.ireturn, 1) := by decide +kernel
theorem dX8_greatest_0 : decode cX8_greatest 0 = .ok (.aload_n 0, 1) := by decide +kernel
theorem dX8_greatest_1 : decode cX8_greatest 1 = .ok (.aload_n 1, 1) := by decide +kernel
theorem dX8_greatest_2 : decode cX8_greatest 2 = .ok (.iconst 2, 1) := by decide +kernel
theorem dX8_greatest_3 : decode cX8_greatest 3 = .ok (.iconst 3, 1) := by decide +kernel
theorem dX8_greatest_4 : decode cX8_greatest 4 = .ok (.invokevirtual 50, 3) := by decide +kernel
theorem w_984 : Cond.methodLink "QuarterWalks$Turns" 50 yX8_follow ∈ wAll := wI4 169 (by decide +kernel) (by decide +kernel)
theorem w_972 : Cond.selects yX8_follow.cls yX8_follow yX8_follow ∈ wAll := wI4 157 (by decide +kernel) (by decide +kernel)
theorem mk_X8_follow : mk yX8_follow 3 := ⟨by decide +kernel, w_103⟩
theorem w_971 : Cond.instanceMethod yX8_follow ∈ wAll := wI4 156 (by decide +kernel) (by decide +kernel)
theorem w_973 : Cond.code yX8_follow cX8_follow 7 (some .int) ∈ wAll := wI4 158 (by decide +kernel) (by decide +kernel)
theorem dX8_greatest_7 : decode cX8_greatest 7 = .ok (.istore_n 2, 1) := by decide +kernel
theorem dX8_greatest_8 : decode cX8_greatest 8 = .ok (.iload_n 2, 1) := by decide +kernel
theorem dX8_greatest_9 : decode cX8_greatest 9 = .ok (.iconst (-1), 1) := by decide +kernel
theorem dX8_greatest_10 : decode cX8_greatest 10 = .ok (.if_icmp .ne 7, 3) := by decide +kernel
theorem dX8_greatest_17 : decode cX8_greatest 17 = .ok (.aload_n 0, 1) := by decide +kernel
theorem dX8_greatest_18 : decode cX8_greatest 18 = .ok (.aload_n 1, 1) := by decide +kernel
theorem dX8_greatest_19 : decode cX8_greatest 19 = .ok (.iconst 5, 1) := by decide +kernel
theorem dX8_greatest_20 : decode cX8_greatest 20 = .ok (.bipush 7, 2) := by decide +kernel
theorem dX8_greatest_22 : decode cX8_greatest 22 = .ok (.invokevirtual 50, 3) := by decide +kernel
theorem dX8_greatest_13 : decode cX8_greatest 13 = .ok (.iconst (-1), 1) := by decide +kernel
theorem dX8_greatest_14 : decode cX8_greatest 14 = .ok (.goto 11, 3) := by decide +kernel
theorem dX8_greatest_25 : decode cX8_greatest 25 = .ok (.istore_n 3, 1) := by decide +kernel
theorem dX8_greatest_26 : decode cX8_greatest 26 = .ok (.iload_n 3, 1) := by decide +kernel
theorem dX8_greatest_27 : decode cX8_greatest 27 = .ok (.iconst (-1), 1) := by decide +kernel
theorem dX8_greatest_28 : decode cX8_greatest 28 = .ok (.if_icmp .ne 7, 3) := by decide +kernel
theorem dX8_greatest_35 : decode cX8_greatest 35 = .ok (.aload_n 0, 1) := by decide +kernel
theorem dX8_greatest_36 : decode cX8_greatest 36 = .ok (.aload_n 1, 1) := by decide +kernel
theorem dX8_greatest_37 : decode cX8_greatest 37 = .ok (.bipush 11, 2) := by decide +kernel
theorem dX8_greatest_39 : decode cX8_greatest 39 = .ok (.bipush 13, 2) := by decide +kernel
theorem dX8_greatest_41 : decode cX8_greatest 41 = .ok (.invokevirtual 50, 3) := by decide +kernel
theorem dX8_greatest_44 : decode cX8_greatest 44 = .ok (.istore 4, 2) := by decide +kernel
theorem dX8_greatest_46 : decode cX8_greatest 46 = .ok (.iload 4, 2) := by decide +kernel
theorem dX8_greatest_48 : decode cX8_greatest 48 = .ok (.iconst (-1), 1) := by decide +kernel
theorem dX8_greatest_49 : decode cX8_greatest 49 = .ok (.if_icmp .ne 7, 3) := by decide +kernel
theorem dX8_greatest_56 : decode cX8_greatest 56 = .ok (.iload_n 2, 1) := by decide +kernel
theorem dX8_greatest_57 : decode cX8_greatest 57 = .ok (.iload_n 3, 1) := by decide +kernel
theorem dX8_greatest_58 : decode cX8_greatest 58 = .ok (.iload 4, 2) := by decide +kernel
theorem dX8_greatest_60 : decode cX8_greatest 60 = .ok (.invokestatic 53, 3) := by decide +kernel
theorem w_985 : Cond.methodLink "QuarterWalks$Turns" 53 yJ9_max_7cf53 ∈ wAll := wI4 170 (by decide +kernel) (by decide +kernel)
theorem dX8_greatest_63 : decode cX8_greatest 63 = .ok (.invokestatic 53, 3) := by decide +kernel
theorem dX8_greatest_52 : decode cX8_greatest 52 = .ok (.iconst (-1), 1) := by decide +kernel
theorem dX8_greatest_53 : decode cX8_greatest 53 = .ok (.goto 13, 3) := by decide +kernel
theorem dX8_greatest_31 : decode cX8_greatest 31 = .ok (.iconst (-1), 1) := by decide +kernel
theorem dX8_greatest_32 : decode cX8_greatest 32 = .ok (.goto 12, 3) := by decide +kernel
theorem dX8_greatest_66 : decode cX8_greatest 66 = .ok (.ireturn, 1) := by decide +kernel
theorem dX8_alternating_0 : decode cX8_alternating 0 = .ok (.lconst 0, 1) := by decide +kernel
theorem dX8_alternating_1 : decode cX8_alternating 1 = .ok (.lstore_n 2, 1) := by decide +kernel
theorem dX8_alternating_2 : decode cX8_alternating 2 = .ok (.iconst 0, 1) := by decide +kernel
theorem dX8_alternating_3 : decode cX8_alternating 3 = .ok (.istore 4, 2) := by decide +kernel
theorem dX8_alternating_5 : decode cX8_alternating 5 = .ok (.iload 4, 2) := by decide +kernel
theorem dX8_alternating_7 : decode cX8_alternating 7 = .ok (.iload_n 1, 1) := by decide +kernel
theorem dX8_alternating_8 : decode cX8_alternating 8 = .ok (.if_icmp .ge 57, 3) := by decide +kernel
theorem dX8_alternating_65 : decode cX8_alternating 65 = .ok (.lload_n 2, 1) := by decide +kernel
theorem dX8_alternating_66 : decode cX8_alternating 66 = .ok (.invokestatic 35, 3) := by decide +kernel
theorem dX8_alternating_11 : decode cX8_alternating 11 = .ok (.iload 4, 2) := by decide +kernel
theorem dX8_alternating_13 : decode cX8_alternating 13 = .ok (.bipush 40, 2) := by decide +kernel
theorem dX8_alternating_15 : decode cX8_alternating 15 = .ok (.if_icmp .ge 50, 3) := by decide +kernel
theorem dX8_alternating_18 : decode cX8_alternating 18 = .ok (.aload_n 0, 1) := by decide +kernel
theorem dX8_alternating_19 : decode cX8_alternating 19 = .ok (.getfield 11, 3) := by decide +kernel
theorem dX8_alternating_22 : decode cX8_alternating 22 = .ok (.iload 4, 2) := by decide +kernel
theorem dX8_alternating_24 : decode cX8_alternating 24 = .ok (.iaload, 1) := by decide +kernel
theorem dX8_alternating_25 : decode cX8_alternating 25 = .ok (.i2l, 1) := by decide +kernel
theorem dX8_alternating_26 : decode cX8_alternating 26 = .ok (.aload_n 0, 1) := by decide +kernel
theorem dX8_alternating_27 : decode cX8_alternating 27 = .ok (.getfield 15, 3) := by decide +kernel
theorem dX8_alternating_30 : decode cX8_alternating 30 = .ok (.iload 4, 2) := by decide +kernel
theorem dX8_alternating_32 : decode cX8_alternating 32 = .ok (.iaload, 1) := by decide +kernel
theorem dX8_alternating_33 : decode cX8_alternating 33 = .ok (.i2l, 1) := by decide +kernel
theorem dX8_alternating_34 : decode cX8_alternating 34 = .ok (.invokestatic 27, 3) := by decide +kernel
theorem dX8_alternating_37 : decode cX8_alternating 37 = .ok (.istore 5, 2) := by decide +kernel
theorem dX8_alternating_39 : decode cX8_alternating 39 = .ok (.lload_n 2, 1) := by decide +kernel
theorem dX8_alternating_40 : decode cX8_alternating 40 = .ok (.iload 4, 2) := by decide +kernel
theorem dX8_alternating_42 : decode cX8_alternating 42 = .ok (.iconst 2, 1) := by decide +kernel
theorem dX8_alternating_43 : decode cX8_alternating 43 = .ok (.irem, 1) := by decide +kernel
theorem dX8_alternating_44 : decode cX8_alternating 44 = .ok (.ifCond .ne 9, 3) := by decide +kernel
theorem dX8_alternating_53 : decode cX8_alternating 53 = .ok (.iload 5, 2) := by decide +kernel
theorem dX8_alternating_55 : decode cX8_alternating 55 = .ok (.ineg, 1) := by decide +kernel
theorem dX8_alternating_56 : decode cX8_alternating 56 = .ok (.i2l, 1) := by decide +kernel
theorem dX8_alternating_57 : decode cX8_alternating 57 = .ok (.ladd, 1) := by decide +kernel
theorem dX8_alternating_58 : decode cX8_alternating 58 = .ok (.lstore_n 2, 1) := by decide +kernel
theorem dX8_alternating_59 : decode cX8_alternating 59 = .ok (.iinc 4 1, 3) := by decide +kernel
theorem dX8_alternating_62 : decode cX8_alternating 62 = .ok (.goto (-57), 3) := by decide +kernel
theorem dX8_alternating_47 : decode cX8_alternating 47 = .ok (.iload 5, 2) := by decide +kernel
theorem dX8_alternating_49 : decode cX8_alternating 49 = .ok (.i2l, 1) := by decide +kernel
theorem dX8_alternating_50 : decode cX8_alternating 50 = .ok (.goto 7, 3) := by decide +kernel
theorem dX8_alternating_69 : decode cX8_alternating 69 = .ok (.ireturn, 1) := by decide +kernel
theorem dX4_shape_0 : decode cX4_shape 0 = .ok (.aload_n 0, 1) := by decide +kernel
theorem dX4_shape_1 : decode cX4_shape 1 = .ok (.iconst 0, 1) := by decide +kernel
theorem dX4_shape_2 : decode cX4_shape 2 = .ok (.iload_n 1, 1) := by decide +kernel
theorem dX4_shape_3 : decode cX4_shape 3 = .ok (.bipush 32, 2) := by decide +kernel
theorem dX4_shape_5 : decode cX4_shape 5 = .ok (.invokestatic 16, 3) := by decide +kernel
theorem w_790 : Cond.methodLink "QuarterWalks$Matrix" 16 yJ9_min_7cf53 ∈ wAll := wI3 215 (by decide +kernel) (by decide +kernel)
theorem w_548 : Cond.static yJ9_min_7cf53 ∈ wAll := wI2 213 (by decide +kernel) (by decide +kernel)
theorem w_549 : Cond.code yJ9_min_7cf53 cJ9_min_7cf53 2 (some .int) ∈ wAll := wI2 214 (by decide +kernel) (by decide +kernel)
theorem dX4_shape_8 : decode cX4_shape 8 = .ok (.invokestatic 22, 3) := by decide +kernel
theorem w_791 : Cond.methodLink "QuarterWalks$Matrix" 22 yJ9_max_7cf53 ∈ wAll := wI3 216 (by decide +kernel) (by decide +kernel)
theorem dX4_shape_11 : decode cX4_shape 11 = .ok (.putfield 25, 3) := by decide +kernel
theorem w_318 : Cond.laysFinal "QuarterWalks$Matrix" "QuarterWalks$Matrix" "cells" "[[J" ∈ wAll := wI1 223 (by decide +kernel) (by decide +kernel)
theorem w_320 : Cond.lays "QuarterWalks$Matrix" "QuarterWalks$Matrix" "rows" "I" ∈ wAll := wI1 225 (by decide +kernel) (by decide +kernel)
theorem w_322 : Cond.lays "QuarterWalks$Matrix" "QuarterWalks$Matrix" "columns" "I" ∈ wAll := wI1 227 (by decide +kernel) (by decide +kernel)
theorem w_324 : Cond.lays "QuarterWalks$Matrix" "QuarterWalks$Matrix" "product" "I" ∈ wAll := wI1 229 (by decide +kernel) (by decide +kernel)
theorem inA_X4 : ∀ w ∈ u_ws RX4 TX4 4, w ∈ wAll := List.forall_mem_cons.mpr ⟨w_318, List.forall_mem_cons.mpr ⟨w_320, List.forall_mem_cons.mpr ⟨w_322, List.forall_mem_cons.mpr ⟨w_324, fun _ h => absurd h List.not_mem_nil⟩⟩⟩⟩
theorem w_315 : Cond.fieldLink "QuarterWalks$Matrix" 25 "QuarterWalks$Matrix" "rows" "I" ∈ wAll := wI1 220 (by decide +kernel) (by decide +kernel)
theorem flw_X4_25 : flw RX4 25 5 1 (.int) := ⟨RX4, TX4, 4, tyX4, rfl, inA_X4, by decide, w_315, tyX4_ok, nmX4, by decide +kernel, Or.inl rfl⟩
theorem dX4_shape_14 : decode cX4_shape 14 = .ok (.aload_n 0, 1) := by decide +kernel
theorem dX4_shape_15 : decode cX4_shape 15 = .ok (.iconst 0, 1) := by decide +kernel
theorem dX4_shape_16 : decode cX4_shape 16 = .ok (.iload_n 2, 1) := by decide +kernel
theorem dX4_shape_17 : decode cX4_shape 17 = .ok (.bipush 28, 2) := by decide +kernel
theorem dX4_shape_19 : decode cX4_shape 19 = .ok (.invokestatic 16, 3) := by decide +kernel
theorem dX4_shape_22 : decode cX4_shape 22 = .ok (.invokestatic 22, 3) := by decide +kernel
theorem dX4_shape_25 : decode cX4_shape 25 = .ok (.putfield 29, 3) := by decide +kernel
theorem w_316 : Cond.fieldLink "QuarterWalks$Matrix" 29 "QuarterWalks$Matrix" "columns" "I" ∈ wAll := wI1 221 (by decide +kernel) (by decide +kernel)
theorem flw_X4_29 : flw RX4 29 5 2 (.int) := ⟨RX4, TX4, 4, tyX4, rfl, inA_X4, by decide, w_316, tyX4_ok, nmX4, by decide +kernel, Or.inl rfl⟩
theorem dX4_shape_28 : decode cX4_shape 28 = .ok (.aload_n 0, 1) := by decide +kernel
theorem dX4_shape_29 : decode cX4_shape 29 = .ok (.iconst 1, 1) := by decide +kernel
theorem dX4_shape_30 : decode cX4_shape 30 = .ok (.putfield 32, 3) := by decide +kernel
theorem w_317 : Cond.fieldLink "QuarterWalks$Matrix" 32 "QuarterWalks$Matrix" "product" "I" ∈ wAll := wI1 222 (by decide +kernel) (by decide +kernel)
theorem flw_X4_32 : flw RX4 32 5 3 (.int) := ⟨RX4, TX4, 4, tyX4, rfl, inA_X4, by decide, w_317, tyX4_ok, nmX4, by decide +kernel, Or.inl rfl⟩
theorem dX4_shape_33 : decode cX4_shape 33 = .ok (.return_, 1) := by decide +kernel
theorem dX4_put_0 : decode cX4_put 0 = .ok (.iload_n 1, 1) := by decide +kernel
theorem dX4_put_1 : decode cX4_put 1 = .ok (.iconst 0, 1) := by decide +kernel
theorem dX4_put_2 : decode cX4_put 2 = .ok (.aload_n 0, 1) := by decide +kernel
theorem dX4_put_3 : decode cX4_put 3 = .ok (.getfield 25, 3) := by decide +kernel
theorem fl_X4_25 : fl RX4 25 5 1 := ⟨RX4, TX4, 4, rfl, inA_X4, by decide, w_315⟩
theorem dX4_put_6 : decode cX4_put 6 = .ok (.iconst 1, 1) := by decide +kernel
theorem dX4_put_7 : decode cX4_put 7 = .ok (.isub, 1) := by decide +kernel
theorem dX4_put_8 : decode cX4_put 8 = .ok (.invokestatic 35, 3) := by decide +kernel
theorem dX4_put_11 : decode cX4_put 11 = .ok (.ifCond .eq 26, 3) := by decide +kernel
theorem dX4_put_14 : decode cX4_put 14 = .ok (.iload_n 2, 1) := by decide +kernel
theorem dX4_put_15 : decode cX4_put 15 = .ok (.iconst 0, 1) := by decide +kernel
theorem dX4_put_16 : decode cX4_put 16 = .ok (.aload_n 0, 1) := by decide +kernel
theorem dX4_put_17 : decode cX4_put 17 = .ok (.getfield 29, 3) := by decide +kernel
theorem fl_X4_29 : fl RX4 29 5 2 := ⟨RX4, TX4, 4, rfl, inA_X4, by decide, w_316⟩
theorem dX4_put_20 : decode cX4_put 20 = .ok (.iconst 1, 1) := by decide +kernel
theorem dX4_put_21 : decode cX4_put 21 = .ok (.isub, 1) := by decide +kernel
theorem dX4_put_22 : decode cX4_put 22 = .ok (.invokestatic 35, 3) := by decide +kernel
theorem dX4_put_25 : decode cX4_put 25 = .ok (.ifCond .eq 12, 3) := by decide +kernel
theorem dX4_put_28 : decode cX4_put 28 = .ok (.aload_n 0, 1) := by decide +kernel
theorem dX4_put_29 : decode cX4_put 29 = .ok (.getfield 13, 3) := by decide +kernel
theorem w_314 : Cond.fieldLink "QuarterWalks$Matrix" 13 "QuarterWalks$Matrix" "cells" "[[J" ∈ wAll := wI1 219 (by decide +kernel) (by decide +kernel)
theorem fl_X4_13 : fl RX4 13 5 0 := ⟨RX4, TX4, 4, rfl, inA_X4, by decide, w_314⟩
theorem dX4_put_32 : decode cX4_put 32 = .ok (.iload_n 1, 1) := by decide +kernel
theorem dX4_put_33 : decode cX4_put 33 = .ok (.aaload, 1) := by decide +kernel
theorem dX4_put_34 : decode cX4_put 34 = .ok (.iload_n 2, 1) := by decide +kernel
theorem dX4_put_35 : decode cX4_put 35 = .ok (.lload_n 3, 1) := by decide +kernel
theorem dX4_put_36 : decode cX4_put 36 = .ok (.lastore, 1) := by decide +kernel
theorem dX4_put_37 : decode cX4_put 37 = .ok (.return_, 1) := by decide +kernel
theorem dX4_share_0 : decode cX4_share 0 = .ok (.iload_n 1, 1) := by decide +kernel
theorem dX4_share_1 : decode cX4_share 1 = .ok (.iconst 0, 1) := by decide +kernel
theorem dX4_share_2 : decode cX4_share 2 = .ok (.aload_n 0, 1) := by decide +kernel
theorem dX4_share_3 : decode cX4_share 3 = .ok (.getfield 25, 3) := by decide +kernel
theorem dX4_share_6 : decode cX4_share 6 = .ok (.iconst 1, 1) := by decide +kernel
theorem dX4_share_7 : decode cX4_share 7 = .ok (.isub, 1) := by decide +kernel
theorem dX4_share_8 : decode cX4_share 8 = .ok (.invokestatic 35, 3) := by decide +kernel
theorem dX4_share_11 : decode cX4_share 11 = .ok (.ifCond .eq 21, 3) := by decide +kernel
theorem dX4_share_32 : decode cX4_share 32 = .ok (.iconst 0, 1) := by decide +kernel
theorem dX4_share_33 : decode cX4_share 33 = .ok (.istore_n 3, 1) := by decide +kernel
theorem dX4_share_34 : decode cX4_share 34 = .ok (.iload_n 3, 1) := by decide +kernel
theorem dX4_share_35 : decode cX4_share 35 = .ok (.ifCond .eq 15, 3) := by decide +kernel
theorem dX4_share_50 : decode cX4_share 50 = .ok (.iconst 0, 1) := by decide +kernel
theorem dX4_share_14 : decode cX4_share 14 = .ok (.iload_n 2, 1) := by decide +kernel
theorem dX4_share_15 : decode cX4_share 15 = .ok (.iconst 0, 1) := by decide +kernel
theorem dX4_share_16 : decode cX4_share 16 = .ok (.aload_n 0, 1) := by decide +kernel
theorem dX4_share_17 : decode cX4_share 17 = .ok (.getfield 29, 3) := by decide +kernel
theorem dX4_share_20 : decode cX4_share 20 = .ok (.iconst 1, 1) := by decide +kernel
theorem dX4_share_21 : decode cX4_share 21 = .ok (.isub, 1) := by decide +kernel
theorem dX4_share_22 : decode cX4_share 22 = .ok (.invokestatic 35, 3) := by decide +kernel
theorem dX4_share_25 : decode cX4_share 25 = .ok (.ifCond .eq 7, 3) := by decide +kernel
theorem dX4_share_28 : decode cX4_share 28 = .ok (.iconst 1, 1) := by decide +kernel
theorem dX4_share_29 : decode cX4_share 29 = .ok (.goto 4, 3) := by decide +kernel
theorem dX4_share_38 : decode cX4_share 38 = .ok (.aload_n 0, 1) := by decide +kernel
theorem dX4_share_39 : decode cX4_share 39 = .ok (.getfield 13, 3) := by decide +kernel
theorem dX4_share_42 : decode cX4_share 42 = .ok (.iload_n 1, 1) := by decide +kernel
theorem dX4_share_43 : decode cX4_share 43 = .ok (.aaload, 1) := by decide +kernel
theorem dX4_share_44 : decode cX4_share 44 = .ok (.iload_n 2, 1) := by decide +kernel
theorem dX4_share_45 : decode cX4_share 45 = .ok (.laload, 1) := by decide +kernel
theorem dX4_share_46 : decode cX4_share 46 = .ok (.l2i, 1) := by decide +kernel
theorem dX4_share_47 : decode cX4_share 47 = .ok (.goto 4, 3) := by decide +kernel
theorem dX4_share_51 : decode cX4_share 51 = .ok (.ireturn, 1) := by decide +kernel
theorem dX4_clear_0 : decode cX4_clear 0 = .ok (.ldc2_w 43, 3) := by decide +kernel
theorem w_805 : Cond.constantLong "QuarterWalks$Matrix" 43 1000003 ∈ wAll := wI3 230 (by decide +kernel) (by decide +kernel)
theorem dX4_clear_3 : decode cX4_clear 3 = .ok (.aload_n 1, 1) := by decide +kernel
theorem dX4_clear_4 : decode cX4_clear 4 = .ok (.iload_n 3, 1) := by decide +kernel
theorem dX4_clear_5 : decode cX4_clear 5 = .ok (.laload, 1) := by decide +kernel
theorem dX4_clear_6 : decode cX4_clear 6 = .ok (.lsub, 1) := by decide +kernel
theorem dX4_clear_7 : decode cX4_clear 7 = .ok (.lstore 4, 2) := by decide +kernel
theorem dX4_clear_9 : decode cX4_clear 9 = .ok (.iload_n 3, 1) := by decide +kernel
theorem dX4_clear_10 : decode cX4_clear 10 = .ok (.istore 6, 2) := by decide +kernel
theorem dX4_clear_12 : decode cX4_clear 12 = .ok (.iload 6, 2) := by decide +kernel
theorem dX4_clear_14 : decode cX4_clear 14 = .ok (.aload_n 0, 1) := by decide +kernel
theorem dX4_clear_15 : decode cX4_clear 15 = .ok (.getfield 29, 3) := by decide +kernel
theorem dX4_clear_18 : decode cX4_clear 18 = .ok (.if_icmp .ge 29, 3) := by decide +kernel
theorem dX4_clear_21 : decode cX4_clear 21 = .ok (.aload_n 1, 1) := by decide +kernel
theorem dX4_clear_22 : decode cX4_clear 22 = .ok (.iload 6, 2) := by decide +kernel
theorem dX4_clear_24 : decode cX4_clear 24 = .ok (.aload_n 1, 1) := by decide +kernel
theorem dX4_clear_25 : decode cX4_clear 25 = .ok (.iload 6, 2) := by decide +kernel
theorem dX4_clear_27 : decode cX4_clear 27 = .ok (.laload, 1) := by decide +kernel
theorem dX4_clear_28 : decode cX4_clear 28 = .ok (.lload 4, 2) := by decide +kernel
theorem dX4_clear_30 : decode cX4_clear 30 = .ok (.aload_n 2, 1) := by decide +kernel
theorem dX4_clear_31 : decode cX4_clear 31 = .ok (.iload 6, 2) := by decide +kernel
theorem dX4_clear_33 : decode cX4_clear 33 = .ok (.laload, 1) := by decide +kernel
theorem dX4_clear_34 : decode cX4_clear 34 = .ok (.lmul, 1) := by decide +kernel
theorem dX4_clear_35 : decode cX4_clear 35 = .ok (.ladd, 1) := by decide +kernel
theorem dX4_clear_36 : decode cX4_clear 36 = .ok (.ldc2_w 43, 3) := by decide +kernel
theorem dX4_clear_39 : decode cX4_clear 39 = .ok (.lrem, 1) := by decide +kernel
theorem dX4_clear_40 : decode cX4_clear 40 = .ok (.lastore, 1) := by decide +kernel
theorem dX4_clear_41 : decode cX4_clear 41 = .ok (.iinc 6 1, 3) := by decide +kernel
theorem dX4_clear_44 : decode cX4_clear 44 = .ok (.goto (-32), 3) := by decide +kernel
theorem dX4_clear_47 : decode cX4_clear 47 = .ok (.return_, 1) := by decide +kernel
theorem dX4_clearsBy_0 : decode cX4_clearsBy 0 = .ok (.iload_n 1, 1) := by decide +kernel
theorem dX4_clearsBy_1 : decode cX4_clearsBy 1 = .ok (.istore_n 3, 1) := by decide +kernel
theorem dX4_clearsBy_2 : decode cX4_clearsBy 2 = .ok (.iload_n 3, 1) := by decide +kernel
theorem dX4_clearsBy_3 : decode cX4_clearsBy 3 = .ok (.aload_n 0, 1) := by decide +kernel
theorem dX4_clearsBy_4 : decode cX4_clearsBy 4 = .ok (.getfield 25, 3) := by decide +kernel
theorem dX4_clearsBy_7 : decode cX4_clearsBy 7 = .ok (.if_icmp .ge 22, 3) := by decide +kernel
theorem dX4_clearsBy_10 : decode cX4_clearsBy 10 = .ok (.aload_n 0, 1) := by decide +kernel
theorem dX4_clearsBy_11 : decode cX4_clearsBy 11 = .ok (.getfield 13, 3) := by decide +kernel
theorem dX4_clearsBy_14 : decode cX4_clearsBy 14 = .ok (.iload_n 3, 1) := by decide +kernel
theorem dX4_clearsBy_15 : decode cX4_clearsBy 15 = .ok (.aaload, 1) := by decide +kernel
theorem dX4_clearsBy_16 : decode cX4_clearsBy 16 = .ok (.iload_n 2, 1) := by decide +kernel
theorem dX4_clearsBy_17 : decode cX4_clearsBy 17 = .ok (.laload, 1) := by decide +kernel
theorem dX4_clearsBy_18 : decode cX4_clearsBy 18 = .ok (.lconst 0, 1) := by decide +kernel
theorem dX4_clearsBy_19 : decode cX4_clearsBy 19 = .ok (.lcmp, 1) := by decide +kernel
theorem dX4_clearsBy_20 : decode cX4_clearsBy 20 = .ok (.ifCond .ne 9, 3) := by decide +kernel
theorem dX4_clearsBy_23 : decode cX4_clearsBy 23 = .ok (.iinc 3 1, 3) := by decide +kernel
theorem dX4_clearsBy_26 : decode cX4_clearsBy 26 = .ok (.goto (-24), 3) := by decide +kernel
theorem dX4_clearsBy_29 : decode cX4_clearsBy 29 = .ok (.iload_n 3, 1) := by decide +kernel
theorem dX4_clearsBy_30 : decode cX4_clearsBy 30 = .ok (.aload_n 0, 1) := by decide +kernel
theorem dX4_clearsBy_31 : decode cX4_clearsBy 31 = .ok (.getfield 25, 3) := by decide +kernel
theorem dX4_clearsBy_34 : decode cX4_clearsBy 34 = .ok (.if_icmp .lt 5, 3) := by decide +kernel
theorem dX4_clearsBy_39 : decode cX4_clearsBy 39 = .ok (.aload_n 0, 1) := by decide +kernel
theorem dX4_clearsBy_40 : decode cX4_clearsBy 40 = .ok (.getfield 13, 3) := by decide +kernel
theorem dX4_clearsBy_43 : decode cX4_clearsBy 43 = .ok (.iload_n 3, 1) := by decide +kernel
theorem dX4_clearsBy_44 : decode cX4_clearsBy 44 = .ok (.aaload, 1) := by decide +kernel
theorem dX4_clearsBy_45 : decode cX4_clearsBy 45 = .ok (.astore 4, 2) := by decide +kernel
theorem dX4_clearsBy_47 : decode cX4_clearsBy 47 = .ok (.aload_n 0, 1) := by decide +kernel
theorem dX4_clearsBy_48 : decode cX4_clearsBy 48 = .ok (.getfield 13, 3) := by decide +kernel
theorem dX4_clearsBy_51 : decode cX4_clearsBy 51 = .ok (.iload_n 3, 1) := by decide +kernel
theorem dX4_clearsBy_52 : decode cX4_clearsBy 52 = .ok (.aload_n 0, 1) := by decide +kernel
theorem dX4_clearsBy_53 : decode cX4_clearsBy 53 = .ok (.getfield 13, 3) := by decide +kernel
theorem dX4_clearsBy_56 : decode cX4_clearsBy 56 = .ok (.iload_n 1, 1) := by decide +kernel
theorem dX4_clearsBy_57 : decode cX4_clearsBy 57 = .ok (.aaload, 1) := by decide +kernel
theorem dX4_clearsBy_58 : decode cX4_clearsBy 58 = .ok (.aastore, 1) := by decide +kernel
theorem dX4_clearsBy_59 : decode cX4_clearsBy 59 = .ok (.aload_n 0, 1) := by decide +kernel
theorem dX4_clearsBy_60 : decode cX4_clearsBy 60 = .ok (.getfield 13, 3) := by decide +kernel
theorem dX4_clearsBy_63 : decode cX4_clearsBy 63 = .ok (.iload_n 1, 1) := by decide +kernel
theorem dX4_clearsBy_64 : decode cX4_clearsBy 64 = .ok (.aload 4, 2) := by decide +kernel
theorem dX4_clearsBy_66 : decode cX4_clearsBy 66 = .ok (.aastore, 1) := by decide +kernel
theorem dX4_clearsBy_67 : decode cX4_clearsBy 67 = .ok (.aload_n 0, 1) := by decide +kernel
theorem dX4_clearsBy_68 : decode cX4_clearsBy 68 = .ok (.aload_n 0, 1) := by decide +kernel
theorem dX4_clearsBy_69 : decode cX4_clearsBy 69 = .ok (.getfield 32, 3) := by decide +kernel
theorem fl_X4_32 : fl RX4 32 5 3 := ⟨RX4, TX4, 4, rfl, inA_X4, by decide, w_317⟩
theorem dX4_clearsBy_72 : decode cX4_clearsBy 72 = .ok (.i2l, 1) := by decide +kernel
theorem dX4_clearsBy_73 : decode cX4_clearsBy 73 = .ok (.iload_n 3, 1) := by decide +kernel
theorem dX4_clearsBy_74 : decode cX4_clearsBy 74 = .ok (.iload_n 1, 1) := by decide +kernel
theorem dX4_clearsBy_75 : decode cX4_clearsBy 75 = .ok (.if_icmp .ne 10, 3) := by decide +kernel
theorem dX4_clearsBy_85 : decode cX4_clearsBy 85 = .ok (.ldc2_w 43, 3) := by decide +kernel
theorem dX4_clearsBy_88 : decode cX4_clearsBy 88 = .ok (.aload 4, 2) := by decide +kernel
theorem dX4_clearsBy_90 : decode cX4_clearsBy 90 = .ok (.iload_n 2, 1) := by decide +kernel
theorem dX4_clearsBy_91 : decode cX4_clearsBy 91 = .ok (.laload, 1) := by decide +kernel
theorem dX4_clearsBy_92 : decode cX4_clearsBy 92 = .ok (.lsub, 1) := by decide +kernel
theorem dX4_clearsBy_93 : decode cX4_clearsBy 93 = .ok (.invokestatic 45, 3) := by decide +kernel
theorem dX4_clearsBy_96 : decode cX4_clearsBy 96 = .ok (.putfield 32, 3) := by decide +kernel
theorem dX4_clearsBy_99 : decode cX4_clearsBy 99 = .ok (.aload 4, 2) := by decide +kernel
theorem dX4_clearsBy_101 : decode cX4_clearsBy 101 = .ok (.iload_n 2, 1) := by decide +kernel
theorem dX4_clearsBy_102 : decode cX4_clearsBy 102 = .ok (.laload, 1) := by decide +kernel
theorem dX4_clearsBy_103 : decode cX4_clearsBy 103 = .ok (.l2i, 1) := by decide +kernel
theorem dX4_clearsBy_104 : decode cX4_clearsBy 104 = .ok (.invokestatic 49, 3) := by decide +kernel
theorem dX4_clearsBy_107 : decode cX4_clearsBy 107 = .ok (.i2l, 1) := by decide +kernel
theorem dX4_clearsBy_108 : decode cX4_clearsBy 108 = .ok (.lstore 5, 2) := by decide +kernel
theorem dX4_clearsBy_110 : decode cX4_clearsBy 110 = .ok (.iload_n 2, 1) := by decide +kernel
theorem dX4_clearsBy_111 : decode cX4_clearsBy 111 = .ok (.istore 7, 2) := by decide +kernel
theorem dX4_clearsBy_78 : decode cX4_clearsBy 78 = .ok (.aload 4, 2) := by decide +kernel
theorem dX4_clearsBy_80 : decode cX4_clearsBy 80 = .ok (.iload_n 2, 1) := by decide +kernel
theorem dX4_clearsBy_81 : decode cX4_clearsBy 81 = .ok (.laload, 1) := by decide +kernel
theorem dX4_clearsBy_82 : decode cX4_clearsBy 82 = .ok (.goto 11, 3) := by decide +kernel
theorem dX4_clearsBy_37 : decode cX4_clearsBy 37 = .ok (.iconst 0, 1) := by decide +kernel
theorem dX4_clearsBy_113 : decode cX4_clearsBy 113 = .ok (.iload 7, 2) := by decide +kernel
theorem dX4_clearsBy_115 : decode cX4_clearsBy 115 = .ok (.aload_n 0, 1) := by decide +kernel
theorem dX4_clearsBy_116 : decode cX4_clearsBy 116 = .ok (.getfield 29, 3) := by decide +kernel
theorem dX4_clearsBy_119 : decode cX4_clearsBy 119 = .ok (.if_icmp .ge 25, 3) := by decide +kernel
theorem dX4_clearsBy_144 : decode cX4_clearsBy 144 = .ok (.iconst 0, 1) := by decide +kernel
theorem dX4_clearsBy_145 : decode cX4_clearsBy 145 = .ok (.istore 7, 2) := by decide +kernel
theorem dX4_clearsBy_122 : decode cX4_clearsBy 122 = .ok (.aload 4, 2) := by decide +kernel
theorem dX4_clearsBy_124 : decode cX4_clearsBy 124 = .ok (.iload 7, 2) := by decide +kernel
theorem dX4_clearsBy_126 : decode cX4_clearsBy 126 = .ok (.aload 4, 2) := by decide +kernel
theorem dX4_clearsBy_128 : decode cX4_clearsBy 128 = .ok (.iload 7, 2) := by decide +kernel
theorem dX4_clearsBy_130 : decode cX4_clearsBy 130 = .ok (.laload, 1) := by decide +kernel
theorem dX4_clearsBy_131 : decode cX4_clearsBy 131 = .ok (.lload 5, 2) := by decide +kernel
theorem dX4_clearsBy_133 : decode cX4_clearsBy 133 = .ok (.invokestatic 45, 3) := by decide +kernel
theorem dX4_clearsBy_136 : decode cX4_clearsBy 136 = .ok (.i2l, 1) := by decide +kernel
theorem dX4_clearsBy_137 : decode cX4_clearsBy 137 = .ok (.lastore, 1) := by decide +kernel
theorem dX4_clearsBy_138 : decode cX4_clearsBy 138 = .ok (.iinc 7 1, 3) := by decide +kernel
theorem dX4_clearsBy_141 : decode cX4_clearsBy 141 = .ok (.goto (-28), 3) := by decide +kernel
theorem dX4_clearsBy_147 : decode cX4_clearsBy 147 = .ok (.iload 7, 2) := by decide +kernel
theorem dX4_clearsBy_149 : decode cX4_clearsBy 149 = .ok (.aload_n 0, 1) := by decide +kernel
theorem dX4_clearsBy_150 : decode cX4_clearsBy 150 = .ok (.getfield 25, 3) := by decide +kernel
theorem dX4_clearsBy_153 : decode cX4_clearsBy 153 = .ok (.if_icmp .ge 43, 3) := by decide +kernel
theorem dX4_clearsBy_196 : decode cX4_clearsBy 196 = .ok (.iconst 1, 1) := by decide +kernel
theorem dX4_clearsBy_156 : decode cX4_clearsBy 156 = .ok (.iload 7, 2) := by decide +kernel
theorem dX4_clearsBy_158 : decode cX4_clearsBy 158 = .ok (.iload_n 1, 1) := by decide +kernel
theorem dX4_clearsBy_159 : decode cX4_clearsBy 159 = .ok (.if_icmp .eq 31, 3) := by decide +kernel
theorem dX4_clearsBy_190 : decode cX4_clearsBy 190 = .ok (.iinc 7 1, 3) := by decide +kernel
theorem dX4_clearsBy_193 : decode cX4_clearsBy 193 = .ok (.goto (-46), 3) := by decide +kernel
theorem dX4_clearsBy_162 : decode cX4_clearsBy 162 = .ok (.aload_n 0, 1) := by decide +kernel
theorem dX4_clearsBy_163 : decode cX4_clearsBy 163 = .ok (.getfield 13, 3) := by decide +kernel
theorem dX4_clearsBy_166 : decode cX4_clearsBy 166 = .ok (.iload 7, 2) := by decide +kernel
theorem dX4_clearsBy_168 : decode cX4_clearsBy 168 = .ok (.aaload, 1) := by decide +kernel
theorem dX4_clearsBy_169 : decode cX4_clearsBy 169 = .ok (.iload_n 2, 1) := by decide +kernel
theorem dX4_clearsBy_170 : decode cX4_clearsBy 170 = .ok (.laload, 1) := by decide +kernel
theorem dX4_clearsBy_171 : decode cX4_clearsBy 171 = .ok (.lconst 0, 1) := by decide +kernel
theorem dX4_clearsBy_172 : decode cX4_clearsBy 172 = .ok (.lcmp, 1) := by decide +kernel
theorem dX4_clearsBy_173 : decode cX4_clearsBy 173 = .ok (.ifCond .eq 17, 3) := by decide +kernel
theorem dX4_clearsBy_176 : decode cX4_clearsBy 176 = .ok (.aload_n 0, 1) := by decide +kernel
theorem dX4_clearsBy_177 : decode cX4_clearsBy 177 = .ok (.aload_n 0, 1) := by decide +kernel
theorem dX4_clearsBy_178 : decode cX4_clearsBy 178 = .ok (.getfield 13, 3) := by decide +kernel
theorem dX4_clearsBy_181 : decode cX4_clearsBy 181 = .ok (.iload 7, 2) := by decide +kernel
theorem dX4_clearsBy_183 : decode cX4_clearsBy 183 = .ok (.aaload, 1) := by decide +kernel
theorem dX4_clearsBy_184 : decode cX4_clearsBy 184 = .ok (.aload 4, 2) := by decide +kernel
theorem dX4_clearsBy_186 : decode cX4_clearsBy 186 = .ok (.iload_n 2, 1) := by decide +kernel
theorem dX4_clearsBy_187 : decode cX4_clearsBy 187 = .ok (.invokevirtual 53, 3) := by decide +kernel
theorem w_813 : Cond.methodLink "QuarterWalks$Matrix" 53 yX4_clear ∈ wAll := wI3 238 (by decide +kernel) (by decide +kernel)
theorem w_21 : Cond.selects yX4_clear.cls yX4_clear yX4_clear ∈ wAll := wIn 21 (by decide +kernel) (by decide +kernel)
theorem w_104 : Cond.initialized "QuarterWalks$Matrix" ∈ wAll := wI1 9 (by decide +kernel) (by decide +kernel)
theorem mk_X4_clear : mk yX4_clear 3 := ⟨by decide +kernel, w_104⟩
theorem w_815 : Cond.instanceMethod yX4_clear ∈ wAll := wI4 0 (by decide +kernel) (by decide +kernel)
theorem w_816 : Cond.code yX4_clear cX4_clear 7 none ∈ wAll := wI4 1 (by decide +kernel) (by decide +kernel)
theorem dX4_clearsBy_197 : decode cX4_clearsBy 197 = .ok (.ireturn, 1) := by decide +kernel
theorem dX4_clearsBy_38 : decode cX4_clearsBy 38 = .ok (.ireturn, 1) := by decide +kernel
theorem dX4_pivots_0 : decode cX4_pivots 0 = .ok (.iconst 0, 1) := by decide +kernel
theorem dX4_pivots_1 : decode cX4_pivots 1 = .ok (.istore_n 1, 1) := by decide +kernel
theorem dX4_pivots_2 : decode cX4_pivots 2 = .ok (.iconst 0, 1) := by decide +kernel
theorem dX4_pivots_3 : decode cX4_pivots 3 = .ok (.istore_n 2, 1) := by decide +kernel
theorem dX4_pivots_4 : decode cX4_pivots 4 = .ok (.iload_n 2, 1) := by decide +kernel
theorem dX4_pivots_5 : decode cX4_pivots 5 = .ok (.aload_n 0, 1) := by decide +kernel
theorem dX4_pivots_6 : decode cX4_pivots 6 = .ok (.getfield 29, 3) := by decide +kernel
theorem dX4_pivots_9 : decode cX4_pivots 9 = .ok (.if_icmp .ge 21, 3) := by decide +kernel
theorem dX4_pivots_30 : decode cX4_pivots 30 = .ok (.iload_n 1, 1) := by decide +kernel
theorem dX4_pivots_12 : decode cX4_pivots 12 = .ok (.aload_n 0, 1) := by decide +kernel
theorem dX4_pivots_13 : decode cX4_pivots 13 = .ok (.iload_n 1, 1) := by decide +kernel
theorem dX4_pivots_14 : decode cX4_pivots 14 = .ok (.iload_n 2, 1) := by decide +kernel
theorem dX4_pivots_15 : decode cX4_pivots 15 = .ok (.invokevirtual 39, 3) := by decide +kernel
theorem w_801 : Cond.methodLink "QuarterWalks$Matrix" 39 yX4_clearsBy ∈ wAll := wI3 226 (by decide +kernel) (by decide +kernel)
theorem w_20 : Cond.selects yX4_clearsBy.cls yX4_clearsBy yX4_clearsBy ∈ wAll := wIn 20 (by decide +kernel) (by decide +kernel)
theorem mk_X4_clearsBy : mk yX4_clearsBy 2 := ⟨by decide +kernel, w_104⟩
theorem w_803 : Cond.instanceMethod yX4_clearsBy ∈ wAll := wI3 228 (by decide +kernel) (by decide +kernel)
theorem w_804 : Cond.code yX4_clearsBy cX4_clearsBy 8 (some .boolean) ∈ wAll := wI3 229 (by decide +kernel) (by decide +kernel)
theorem dX4_pivots_18 : decode cX4_pivots 18 = .ok (.ifCond .eq 6, 3) := by decide +kernel
theorem dX4_pivots_24 : decode cX4_pivots 24 = .ok (.iinc 2 1, 3) := by decide +kernel
theorem dX4_pivots_27 : decode cX4_pivots 27 = .ok (.goto (-23), 3) := by decide +kernel
theorem dX4_pivots_21 : decode cX4_pivots 21 = .ok (.iinc 1 1, 3) := by decide +kernel
theorem dX4_pivots_31 : decode cX4_pivots 31 = .ok (.ireturn, 1) := by decide +kernel
theorem dX4_determinant_0 : decode cX4_determinant 0 = .ok (.iconst 0, 1) := by decide +kernel
theorem dX4_determinant_1 : decode cX4_determinant 1 = .ok (.istore_n 1, 1) := by decide +kernel
theorem dX4_determinant_2 : decode cX4_determinant 2 = .ok (.iload_n 1, 1) := by decide +kernel
theorem dX4_determinant_3 : decode cX4_determinant 3 = .ok (.aload_n 0, 1) := by decide +kernel
theorem dX4_determinant_4 : decode cX4_determinant 4 = .ok (.getfield 29, 3) := by decide +kernel
theorem dX4_determinant_7 : decode cX4_determinant 7 = .ok (.if_icmp .ge 20, 3) := by decide +kernel
theorem dX4_determinant_27 : decode cX4_determinant 27 = .ok (.aload_n 0, 1) := by decide +kernel
theorem dX4_determinant_28 : decode cX4_determinant 28 = .ok (.getfield 32, 3) := by decide +kernel
theorem dX4_determinant_10 : decode cX4_determinant 10 = .ok (.aload_n 0, 1) := by decide +kernel
theorem dX4_determinant_11 : decode cX4_determinant 11 = .ok (.iload_n 1, 1) := by decide +kernel
theorem dX4_determinant_12 : decode cX4_determinant 12 = .ok (.iload_n 1, 1) := by decide +kernel
theorem dX4_determinant_13 : decode cX4_determinant 13 = .ok (.invokevirtual 39, 3) := by decide +kernel
theorem dX4_determinant_16 : decode cX4_determinant 16 = .ok (.ifCond .ne 5, 3) := by decide +kernel
theorem dX4_determinant_21 : decode cX4_determinant 21 = .ok (.iinc 1 1, 3) := by decide +kernel
theorem dX4_determinant_24 : decode cX4_determinant 24 = .ok (.goto (-22), 3) := by decide +kernel
theorem dX4_determinant_19 : decode cX4_determinant 19 = .ok (.iconst 0, 1) := by decide +kernel
theorem dX4_determinant_31 : decode cX4_determinant 31 = .ok (.ireturn, 1) := by decide +kernel
theorem dX4_determinant_20 : decode cX4_determinant 20 = .ok (.ireturn, 1) := by decide +kernel
theorem dX4_firstMadeUp_0 : decode cX4_firstMadeUp 0 = .ok (.iconst 0, 1) := by decide +kernel
theorem dX4_firstMadeUp_1 : decode cX4_firstMadeUp 1 = .ok (.istore_n 1, 1) := by decide +kernel
theorem dX4_firstMadeUp_2 : decode cX4_firstMadeUp 2 = .ok (.iload_n 1, 1) := by decide +kernel
theorem dX4_firstMadeUp_3 : decode cX4_firstMadeUp 3 = .ok (.aload_n 0, 1) := by decide +kernel
theorem dX4_firstMadeUp_4 : decode cX4_firstMadeUp 4 = .ok (.getfield 29, 3) := by decide +kernel
theorem dX4_firstMadeUp_7 : decode cX4_firstMadeUp 7 = .ok (.if_icmp .ge 20, 3) := by decide +kernel
theorem dX4_firstMadeUp_27 : decode cX4_firstMadeUp 27 = .ok (.iconst (-1), 1) := by decide +kernel
theorem dX4_firstMadeUp_10 : decode cX4_firstMadeUp 10 = .ok (.aload_n 0, 1) := by decide +kernel
theorem dX4_firstMadeUp_11 : decode cX4_firstMadeUp 11 = .ok (.iload_n 1, 1) := by decide +kernel
theorem dX4_firstMadeUp_12 : decode cX4_firstMadeUp 12 = .ok (.iload_n 1, 1) := by decide +kernel
theorem dX4_firstMadeUp_13 : decode cX4_firstMadeUp 13 = .ok (.invokevirtual 39, 3) := by decide +kernel
theorem dX4_firstMadeUp_16 : decode cX4_firstMadeUp 16 = .ok (.ifCond .ne 5, 3) := by decide +kernel
theorem dX4_firstMadeUp_21 : decode cX4_firstMadeUp 21 = .ok (.iinc 1 1, 3) := by decide +kernel
theorem dX4_firstMadeUp_24 : decode cX4_firstMadeUp 24 = .ok (.goto (-22), 3) := by decide +kernel
theorem dX4_firstMadeUp_19 : decode cX4_firstMadeUp 19 = .ok (.iload_n 1, 1) := by decide +kernel
theorem dX4_firstMadeUp_28 : decode cX4_firstMadeUp 28 = .ok (.ireturn, 1) := by decide +kernel
theorem dX4_firstMadeUp_20 : decode cX4_firstMadeUp 20 = .ok (.ireturn, 1) := by decide +kernel
abbrev rm_s_X10_within : Room := { frames := 0, cells := 0, slots := 0, locals := 0 }
set_option maxRecDepth 100000 in
set_option maxHeartbeats 4000000 in
theorem s_X10_within (l : Launch) (D : va_G) (G : Nat → Nat) (b0 : Nat) (τ : Nat → Nat) (f : hM) (t : TI G 9 τ f) (u0 : Int32) (hu0 : iv u0 (-2147483648) 2147483647) (u1 : Int32) (hu1 : iv u1 (-2147483648) 2147483647) (u2 : Int32) (hu2 : iv u2 (-2147483648) 2147483647) : mI l yX10_within cX10_within 3 (.boolean) rm_s_X10_within D G b0 f [.int u0, .int u1, .int u2] (fun r f1 => iv r 0 1 ∧ TI G 9 τ f1 ∧ Fr [] τ f f1 ∧ (r.toInt ≠ 0 → u1.toInt ≤ u0.toInt ∧ u0.toInt ≤ u2.toInt) ∧ (r.toInt = 0 → u0.toInt < u1.toInt ∨ u2.toInt < u0.toInt)) := by
  refine met2 (own := RX10) (by decide) rfl (Nat.le_of_ble_eq_true rfl) ?_
  intro p e s m args below meth c ls Q hQ C hr hini hl h
  have hl : lv_has ls 3 [(0, .int u0), (1, .int u1), (2, .int u2)] := hl
  obtain ⟨hx, hb, hml, hown, hts, hE0, hlk⟩ := id C
  have o := Fr.rf [] τ f
  refine lv_iload_n hx hb dX10_within_0 rfl (lv_at hl 0 rfl) ?_
  refine lv_iload_n hx hb dX10_within_1 rfl (lv_at hl 1 rfl) ?_
  refine lv_icmp_lt (tgt := 14) hx hb dX10_within_2 (by decide) (fun c1 => ?_) (fun c1 => ?_)
  · have c2 : u0.toInt < u1.toInt := Int32.lt_iff_toInt_lt.mp c1
    have i3 : iv u0 (-2147483648) 2147483646 := iv_Ll c2 hu0 hu1 (by decide)
    have i4 : iv u1 (-2147483647) 2147483647 := iv_Lr c2 hu0 hu1 (by decide)
    refine lv_iconst (v := 0) hx hb dX10_within_14 (by decide) ?_
    exact u_zret C h hr hQ ⟨by decide, by decide⟩ (⟨⟨by decide, by decide⟩, t, o, (fun h_ => absurd h_ (by decide)), (fun _ => (by omega))⟩) (Nat.le_of_ble_eq_true rfl) (Nat.le_of_ble_eq_true rfl) dX10_within_15
  · have c5 : u1.toInt ≤ u0.toInt := Int32.le_iff_toInt_le.mp (iv_nlt c1)
    refine lv_iload_n hx hb dX10_within_5 rfl (lv_at hl 0 rfl) ?_
    refine lv_iload_n hx hb dX10_within_6 rfl (lv_at hl 2 rfl) ?_
    refine lv_icmp_gt (tgt := 14) hx hb dX10_within_7 (by decide) (fun c6 => ?_) (fun c6 => ?_)
    · have c7 : u2.toInt < u0.toInt := Int32.lt_iff_toInt_lt.mp c6
      have i8 : iv u2 (-2147483648) 2147483646 := iv_Ll c7 hu2 hu0 (by decide)
      have i9 : iv u0 (-2147483647) 2147483647 := iv_Lr c7 hu2 hu0 (by decide)
      refine lv_iconst (v := 0) hx hb dX10_within_14 (by decide) ?_
      exact u_zret C h hr hQ ⟨by decide, by decide⟩ (⟨⟨by decide, by decide⟩, t, o, (fun h_ => absurd h_ (by decide)), (fun _ => (by omega))⟩) (Nat.le_of_ble_eq_true rfl) (Nat.le_of_ble_eq_true rfl) dX10_within_15
    · have c10 : u0.toInt ≤ u2.toInt := Int32.le_iff_toInt_le.mp (iv_nlt c6)
      refine lv_iconst (v := 1) hx hb dX10_within_10 (by decide) ?_
      refine lv_goto (tgt := 15) hx hb dX10_within_11 (by decide) ?_
      exact u_zret C h hr hQ ⟨by decide, by decide⟩ (⟨⟨by decide, by decide⟩, t, o, (fun _ => ⟨(by omega), (by omega)⟩), (fun h_ => absurd h_ (by decide))⟩) (Nat.le_of_ble_eq_true rfl) (Nat.le_of_ble_eq_true rfl) dX10_within_15
abbrev rm_s_X10_isLength : Room := { frames := 1, cells := 0, slots := 0, locals := 22 }
set_option maxRecDepth 100000 in
set_option maxHeartbeats 4000000 in
theorem s_X10_isLength (l : Launch) (D : va_G) (G : Nat → Nat) (b0 : Nat) (τ : Nat → Nat) (f : hM) (t : TI G 9 τ f) (u0 : Int32) (hu0 : iv u0 (-2147483648) 2147483647) : mI l yX10_isLength cX10_isLength 1 (.boolean) rm_s_X10_isLength D G b0 f [.int u0] (fun r f1 => iv r 0 1 ∧ TI G 9 τ f1 ∧ Fr [] τ f f1 ∧ (r.toInt ≠ 0 → iv u0 0 60)) := by
  refine met2 (own := RX10) (by decide) rfl (Nat.le_of_ble_eq_true rfl) ?_
  intro p e s m args below meth c ls Q hQ C hr hini hl h
  have hl : lv_has ls 1 [(0, .int u0)] := hl
  obtain ⟨hx, hb, hml, hown, hts, hE0, hlk⟩ := id C
  have o := Fr.rf [] τ f
  refine lv_iload_n hx hb dX10_isLength_0 rfl (lv_at hl 0 rfl) ?_
  refine lv_iconst (v := 0) hx hb dX10_isLength_1 (by decide) ?_
  refine lv_bipush (v := 60) hx hb dX10_isLength_2 (by decide) ?_
  refine k_i (r_S C h hl (As := [.int u0, .int 0, .int 60]) (rest := []) (s_X10_within l D G b0 τ f t u0 hu0 0 (iv_w (iv_k (x := 0) (k := 0) rfl) (by decide)) 60 (iv_w (iv_k (x := 60) (k := 60) rfl) (by decide))) mk_X10_within w_425 w_426 w_427 ⟨Nat.le_of_ble_eq_true rfl, Nat.le_of_ble_eq_true rfl⟩ rfl (Nat.le_of_ble_eq_true rfl) ⟨Nat.le_of_ble_eq_true rfl, Nat.le_of_ble_eq_true rfl⟩ rfl dX10_isLength_4) h (fun r1 f2 H locs p3 h => ?_)
  have n4 : (0 : Int32).toInt = 0 := rfl
  have n5 : (60 : Int32).toInt = 60 := rfl
  obtain ⟨ir1, tf2, ogf2, cnr1, czr1⟩ := p3
  have egf2 := Fr.nil2 ogf2
  subst egf2
  exact u_zret C h hr hQ ir1 (⟨ir1, t, o, (by intro h_; have h9_ := cnr1 h_; omega)⟩) (Nat.le_of_ble_eq_true rfl) (Nat.le_of_ble_eq_true rfl) dX10_isLength_7
abbrev rm_s_X10_isNear : Room := { frames := 1, cells := 0, slots := 0, locals := 22 }
set_option maxRecDepth 100000 in
set_option maxHeartbeats 4000000 in
theorem s_X10_isNear (l : Launch) (D : va_G) (G : Nat → Nat) (b0 : Nat) (τ : Nat → Nat) (f : hM) (t : TI G 9 τ f) (u0 : Int32) (hu0 : iv u0 (-2147483648) 2147483647) (u1 : Int32) (hu1 : iv u1 (-2147483648) 2147483647) : mI l yX10_isNear cX10_isNear 2 (.boolean) rm_s_X10_isNear D G b0 f [.int u0, .int u1] (fun r f1 => iv r 0 1 ∧ TI G 9 τ f1 ∧ Fr [] τ f f1 ∧ (r.toInt ≠ 0 → iv u0 (-70) 70 ∧ iv u1 (-70) 70)) := by
  refine met2 (own := RX10) (by decide) rfl (Nat.le_of_ble_eq_true rfl) ?_
  intro p e s m args below meth c ls Q hQ C hr hini hl h
  have hl : lv_has ls 2 [(0, .int u0), (1, .int u1)] := hl
  obtain ⟨hx, hb, hml, hown, hts, hE0, hlk⟩ := id C
  have o := Fr.rf [] τ f
  refine lv_iload_n hx hb dX10_isNear_0 rfl (lv_at hl 0 rfl) ?_
  refine lv_bipush (v := -70) hx hb dX10_isNear_1 (by decide) ?_
  refine lv_bipush (v := 70) hx hb dX10_isNear_3 (by decide) ?_
  refine k_i (r_S C h hl (As := [.int u0, .int (-70), .int 70]) (rest := []) (s_X10_within l D G b0 τ f t u0 hu0 (-70) (iv_w (iv_k (x := (-70)) (k := (-70)) rfl) (by decide)) 70 (iv_w (iv_k (x := 70) (k := 70) rfl) (by decide))) mk_X10_within w_425 w_426 w_427 ⟨Nat.le_of_ble_eq_true rfl, Nat.le_of_ble_eq_true rfl⟩ rfl (Nat.le_of_ble_eq_true rfl) ⟨Nat.le_of_ble_eq_true rfl, Nat.le_of_ble_eq_true rfl⟩ rfl dX10_isNear_5) h (fun r1 f2 H locs p3 h => ?_)
  have n4 : (-70 : Int32).toInt = (-70) := rfl
  have n5 : (70 : Int32).toInt = 70 := rfl
  obtain ⟨ir1, tf2, ogf2, cnr1, czr1⟩ := p3
  have egf2 := Fr.nil2 ogf2
  subst egf2
  refine lv_if_eq (tgt := 26) hx hb dX10_isNear_8 (by decide) (fun c6 => ?_) (fun c6 => ?_)
  · have c7 : r1.toInt = 0 := congrArg Int32.toInt c6
    have i8 : iv r1 0 0 := iv_Q c7 ir1 (iv_k (x := 0) (k := 0) rfl) (by decide)
    have i9 := czr1 c7
    refine lv_iconst (v := 0) hx hb dX10_isNear_26 (by decide) ?_
    exact u_zret C h hr hQ ⟨by decide, by decide⟩ (⟨⟨by decide, by decide⟩, t, o, (fun h_ => absurd h_ (by decide))⟩) (Nat.le_of_ble_eq_true rfl) (Nat.le_of_ble_eq_true rfl) dX10_isNear_27
  · have c10 : r1.toInt ≠ 0 := fun z_ => c6 (Int32.toInt_inj.mp z_)
    have i11 : iv r1 1 1 := iv_Nl c10 ir1 (by decide)
    obtain ⟨i12, i13⟩ := cnr1 c10
    have i14 : iv u0 (-70) 70 := ⟨by omega, by omega⟩
    refine lv_iload_n hx hb dX10_isNear_11 rfl (lv_at hl 1 rfl) ?_
    refine lv_bipush (v := -70) hx hb dX10_isNear_12 (by decide) ?_
    refine lv_bipush (v := 70) hx hb dX10_isNear_14 (by decide) ?_
    refine k_i (r_S C h hl (As := [.int u1, .int (-70), .int 70]) (rest := []) (s_X10_within l D G b0 τ f t u1 hu1 (-70) (iv_w (iv_k (x := (-70)) (k := (-70)) rfl) (by decide)) 70 (iv_w (iv_k (x := 70) (k := 70) rfl) (by decide))) mk_X10_within w_425 w_426 w_427 ⟨Nat.le_of_ble_eq_true rfl, Nat.le_of_ble_eq_true rfl⟩ rfl (Nat.le_of_ble_eq_true rfl) ⟨Nat.le_of_ble_eq_true rfl, Nat.le_of_ble_eq_true rfl⟩ rfl dX10_isNear_16) h (fun r15 f16 H locs p17 h => ?_)
    have n18 : (-70 : Int32).toInt = (-70) := rfl
    have n19 : (70 : Int32).toInt = 70 := rfl
    obtain ⟨ir15, tf16, ogf16, cnr15, czr15⟩ := p17
    have egf16 := Fr.nil2 ogf16
    subst egf16
    refine lv_if_eq (tgt := 26) hx hb dX10_isNear_19 (by decide) (fun c20 => ?_) (fun c20 => ?_)
    · have c21 : r15.toInt = 0 := congrArg Int32.toInt c20
      have i22 : iv r15 0 0 := iv_Q c21 ir15 (iv_k (x := 0) (k := 0) rfl) (by decide)
      have i23 := czr15 c21
      refine lv_iconst (v := 0) hx hb dX10_isNear_26 (by decide) ?_
      exact u_zret C h hr hQ ⟨by decide, by decide⟩ (⟨⟨by decide, by decide⟩, t, o, (fun h_ => absurd h_ (by decide))⟩) (Nat.le_of_ble_eq_true rfl) (Nat.le_of_ble_eq_true rfl) dX10_isNear_27
    · have c24 : r15.toInt ≠ 0 := fun z_ => c20 (Int32.toInt_inj.mp z_)
      have i25 : iv r15 1 1 := iv_Nl c24 ir15 (by decide)
      obtain ⟨i26, i27⟩ := cnr15 c24
      have i28 : iv u1 (-70) 70 := ⟨by omega, by omega⟩
      refine lv_iconst (v := 1) hx hb dX10_isNear_22 (by decide) ?_
      refine lv_goto (tgt := 27) hx hb dX10_isNear_23 (by decide) ?_
      exact u_zret C h hr hQ ⟨by decide, by decide⟩ (⟨⟨by decide, by decide⟩, t, o, (fun _ => ⟨i14, i28⟩)⟩) (Nat.le_of_ble_eq_true rfl) (Nat.le_of_ble_eq_true rfl) dX10_isNear_27
abbrev rm_s_X10_isKind : Room := { frames := 1, cells := 0, slots := 0, locals := 22 }
set_option maxRecDepth 100000 in
set_option maxHeartbeats 4000000 in
theorem s_X10_isKind (l : Launch) (D : va_G) (G : Nat → Nat) (b0 : Nat) (τ : Nat → Nat) (f : hM) (t : TI G 9 τ f) (u0 : Int32) (hu0 : iv u0 (-2147483648) 2147483647) : mI l yX10_isKind cX10_isKind 1 (.boolean) rm_s_X10_isKind D G b0 f [.int u0] (fun r f1 => iv r 0 1 ∧ TI G 9 τ f1 ∧ Fr [] τ f f1 ∧ (r.toInt ≠ 0 → iv u0 0 4)) := by
  refine met2 (own := RX10) (by decide) rfl (Nat.le_of_ble_eq_true rfl) ?_
  intro p e s m args below meth c ls Q hQ C hr hini hl h
  have hl : lv_has ls 1 [(0, .int u0)] := hl
  obtain ⟨hx, hb, hml, hown, hts, hE0, hlk⟩ := id C
  have o := Fr.rf [] τ f
  refine lv_iload_n hx hb dX10_isKind_0 rfl (lv_at hl 0 rfl) ?_
  refine lv_iconst (v := 0) hx hb dX10_isKind_1 (by decide) ?_
  refine lv_iconst (v := 4) hx hb dX10_isKind_2 (by decide) ?_
  refine k_i (r_S C h hl (As := [.int u0, .int 0, .int 4]) (rest := []) (s_X10_within l D G b0 τ f t u0 hu0 0 (iv_w (iv_k (x := 0) (k := 0) rfl) (by decide)) 4 (iv_w (iv_k (x := 4) (k := 4) rfl) (by decide))) mk_X10_within w_425 w_426 w_427 ⟨Nat.le_of_ble_eq_true rfl, Nat.le_of_ble_eq_true rfl⟩ rfl (Nat.le_of_ble_eq_true rfl) ⟨Nat.le_of_ble_eq_true rfl, Nat.le_of_ble_eq_true rfl⟩ rfl dX10_isKind_3) h (fun r1 f2 H locs p3 h => ?_)
  have n4 : (0 : Int32).toInt = 0 := rfl
  have n5 : (4 : Int32).toInt = 4 := rfl
  obtain ⟨ir1, tf2, ogf2, cnr1, czr1⟩ := p3
  have egf2 := Fr.nil2 ogf2
  subst egf2
  exact u_zret C h hr hQ ir1 (⟨ir1, t, o, (by intro h_; have h9_ := cnr1 h_; omega)⟩) (Nat.le_of_ble_eq_true rfl) (Nat.le_of_ble_eq_true rfl) dX10_isKind_6
abbrev rm_s_X10_isUnit : Room := { frames := 1, cells := 0, slots := 0, locals := 22 }
set_option maxRecDepth 100000 in
set_option maxHeartbeats 4000000 in
theorem s_X10_isUnit (l : Launch) (D : va_G) (G : Nat → Nat) (b0 : Nat) (τ : Nat → Nat) (f : hM) (t : TI G 9 τ f) (u0 : Int32) (hu0 : iv u0 (-2147483648) 2147483647) : mI l yX10_isUnit cX10_isUnit 1 (.boolean) rm_s_X10_isUnit D G b0 f [.int u0] (fun r f1 => iv r 0 1 ∧ TI G 9 τ f1 ∧ Fr [] τ f f1 ∧ (r.toInt ≠ 0 → iv u0 1 1000002)) := by
  refine met2 (own := RX10) (by decide) rfl (Nat.le_of_ble_eq_true rfl) ?_
  intro p e s m args below meth c ls Q hQ C hr hini hl h
  have hl : lv_has ls 1 [(0, .int u0)] := hl
  obtain ⟨hx, hb, hml, hown, hts, hE0, hlk⟩ := id C
  have o := Fr.rf [] τ f
  refine lv_iload_n hx hb dX10_isUnit_0 rfl (lv_at hl 0 rfl) ?_
  refine lv_iconst (v := 1) hx hb dX10_isUnit_1 (by decide) ?_
  refine lv_ldc (v := 1000002) hx hb hown (hts _ w_855) dX10_isUnit_2 ?_
  refine k_i (r_S C h hl (As := [.int u0, .int 1, .int 1000002]) (rest := []) (s_X10_within l D G b0 τ f t u0 hu0 1 (iv_w (iv_k (x := 1) (k := 1) rfl) (by decide)) 1000002 (iv_w (iv_k (x := 1000002) (k := 1000002) rfl) (by decide))) mk_X10_within w_425 w_426 w_427 ⟨Nat.le_of_ble_eq_true rfl, Nat.le_of_ble_eq_true rfl⟩ rfl (Nat.le_of_ble_eq_true rfl) ⟨Nat.le_of_ble_eq_true rfl, Nat.le_of_ble_eq_true rfl⟩ rfl dX10_isUnit_4) h (fun r1 f2 H locs p3 h => ?_)
  have n4 : (1 : Int32).toInt = 1 := rfl
  have n5 : (1000002 : Int32).toInt = 1000002 := rfl
  obtain ⟨ir1, tf2, ogf2, cnr1, czr1⟩ := p3
  have egf2 := Fr.nil2 ogf2
  subst egf2
  exact u_zret C h hr hQ ir1 (⟨ir1, t, o, (by intro h_; have h9_ := cnr1 h_; omega)⟩) (Nat.le_of_ble_eq_true rfl) (Nat.le_of_ble_eq_true rfl) dX10_isUnit_7
abbrev rm_s_X10_fitsLong : Room := { frames := 0, cells := 0, slots := 0, locals := 0 }
set_option maxRecDepth 100000 in
set_option maxHeartbeats 4000000 in
theorem s_X10_fitsLong (l : Launch) (D : va_G) (G : Nat → Nat) (b0 : Nat) (τ : Nat → Nat) (f : hM) (t : TI G 9 τ f) (u0 : Int32) (hu0 : iv u0 (-2147483648) 2147483647) (u1 : Int32) (hu1 : iv u1 (-2147483648) 2147483647) : mI l yX10_fitsLong cX10_fitsLong 5 (.boolean) rm_s_X10_fitsLong D G b0 f [.int u0, .int u1] (fun r f1 => iv r 0 1 ∧ TI G 9 τ f1 ∧ Fr [] τ f f1) := by
  refine met2 (own := RX10) (by decide) rfl (Nat.le_of_ble_eq_true rfl) ?_
  intro p e s m args below meth c ls Q hQ C hr hini hl h
  have hl : lv_has ls 5 [(0, .int u0), (1, .int u1)] := hl
  obtain ⟨hx, hb, hml, hown, hts, hE0, hlk⟩ := id C
  have o := Fr.rf [] τ f
  have L5 : ∀ (n5 : Nat) (ls : Array Slot) (f_5 : hM) (H : Heap) (locs : List Loc) (v5_2 : Int64) (v5_4 : Int32), 2147483647 - v5_4.toInt < (n5 : Int) → lv_has ls 5 [(0, .int u0), (1, .int u1), (2, .long v5_2), (4, .int v5_4)] → hw D b0 s.heap f_5 H locs → TI G 9 τ f_5 → Fr [] τ f f_5 → iv v5_4 0 2147483647 → W p l e rm_s_X10_fitsLong s m args below meth c H locs 0 0 Q (F0 m 5 ls []) := by
    intro n5
    induction n5 with
    | zero => intro ls f_5 H locs v5_2 v5_4 hm5 hl h t_5 o_5 iv5_4; exact absurd hm5 (by omega)
    | succ n5 ih5 =>
      intro ls f_5 H locs v5_2 v5_4 hm5 hl h t_5 o_5 iv5_4
      refine lv_iload hx hb dX10_fitsLong_5 (lv_at hl 3 rfl) ?_
      refine lv_iload_n hx hb dX10_fitsLong_7 rfl (lv_at hl 1 rfl) ?_
      refine lv_icmp_ge (tgt := 40) hx hb dX10_fitsLong_8 (by decide) (fun c1 => ?_) (fun c1 => ?_)
      · have c2 : u1.toInt ≤ v5_4.toInt := Int32.le_iff_toInt_le.mp c1
        refine lv_iconst (v := 1) hx hb dX10_fitsLong_40 (by decide) ?_
        exact u_zret C h hr hQ ⟨by decide, by decide⟩ (⟨⟨by decide, by decide⟩, t_5, o_5⟩) (Nat.le_of_ble_eq_true rfl) (Nat.le_of_ble_eq_true rfl) dX10_fitsLong_41
      · have c3 : v5_4.toInt < u1.toInt := Int32.lt_iff_toInt_lt.mp (iv_nle c1)
        have i4 : iv v5_4 0 2147483646 := iv_Ll c3 iv5_4 hu1 (by decide)
        have i5 : iv u1 1 2147483647 := iv_Lr c3 iv5_4 hu1 (by decide)
        refine lv_iload_n hx hb dX10_fitsLong_11 rfl (lv_at hl 0 rfl) ?_
        refine lv_iconst (v := 1) hx hb dX10_fitsLong_12 (by decide) ?_
        refine lv_icmp_le (tgt := 40) hx hb dX10_fitsLong_13 (by decide) (fun c6 => ?_) (fun c6 => ?_)
        · have c7 : u0.toInt ≤ 1 := Int32.le_iff_toInt_le.mp c6
          have i8 : iv u0 (-2147483648) 1 := iv_El c7 hu0 (iv_k (x := 1) (k := 1) rfl) (by decide)
          refine lv_iconst (v := 1) hx hb dX10_fitsLong_40 (by decide) ?_
          exact u_zret C h hr hQ ⟨by decide, by decide⟩ (⟨⟨by decide, by decide⟩, t_5, o_5⟩) (Nat.le_of_ble_eq_true rfl) (Nat.le_of_ble_eq_true rfl) dX10_fitsLong_41
        · have c9 : 1 < u0.toInt := Int32.lt_iff_toInt_lt.mp (iv_nle c6)
          have i10 : iv u0 2 2147483647 := iv_Lr c9 (iv_k (x := 1) (k := 1) rfl) hu0 (by decide)
          refine lv_lload_n hx hb dX10_fitsLong_16 rfl (lv_at hl 2 rfl) ?_
          refine lv_ldc2 (v := 9223372036854775807) hx hb hown (hts _ w_756) dX10_fitsLong_17 ?_
          refine lv_iload_n hx hb dX10_fitsLong_20 rfl (lv_at hl 0 rfl) ?_
          refine lv_i2l hx hb dX10_fitsLong_21 rfl (i_topL i10 (fun w11 ew11 mw11 iw11 => ?_))
          refine lv_ldiv hx hb dX10_fitsLong_22 (ivl_nz iw11 (by decide)) (lv_topl (fun w12 ew12 => ?_))
          refine W.lcmp hx hb dX10_fitsLong_23 (i_topc (fun z13 ez13 mz13 iz13 => ?_))
          refine lv_if_le (tgt := 29) hx hb dX10_fitsLong_24 (by decide) (fun c14 => ?_) (fun c14 => ?_)
          · have c15 : z13.toInt ≤ 0 := Int32.le_iff_toInt_le.mp c14
            have i16 : iv z13 (-1) 0 := iv_El c15 iz13 (iv_k (x := 0) (k := 0) rfl) (by decide)
            refine lv_lload_n hx hb dX10_fitsLong_29 rfl (lv_at hl 2 rfl) ?_
            refine lv_iload_n hx hb dX10_fitsLong_30 rfl (lv_at hl 0 rfl) ?_
            refine lv_i2l hx hb dX10_fitsLong_31 rfl (i_topL i10 (fun w19 ew19 mw19 iw19 => ?_))
            refine lv_lmul hx hb dX10_fitsLong_32 (lv_topl (fun w20 ew20 => ?_))
            refine lv_lstore_n (lv' := [(2, .long w20), (0, .int u0), (1, .int u1), (4, .int v5_4)]) hx hb dX10_fitsLong_33 rfl hl (by decide) rfl (fun ls hl => ?_)
            refine i_inc hx hb dX10_fitsLong_34 hl (k := 3) rfl i4 rfl (lo := 1) (hi := 2147483647) (by decide) (by decide) (lv' := fun v => [(4, .int v), (2, .long w20), (0, .int u0), (1, .int u1)]) (fun _ => rfl) (fun z21 ls ez21 mz21 iz21 hl => ?_)
            refine lv_goto (tgt := 5) hx hb dX10_fitsLong_37 (by decide) ?_
            exact ih5 ls f_5 H locs w20 z21 (show 2147483647 - z21.toInt < _ by omega) (lv_cons hl 2 rfl (lv_cons hl 3 rfl (lv_cons hl 1 rfl (lv_cons hl 0 rfl (lv_nil hl))))) h t_5 o_5 (iv_w iz21 (by decide))
          · have c17 : 0 < z13.toInt := Int32.lt_iff_toInt_lt.mp (iv_nle c14)
            have i18 : iv z13 1 1 := iv_Lr c17 (iv_k (x := 0) (k := 0) rfl) iz13 (by decide)
            refine lv_iconst (v := 0) hx hb dX10_fitsLong_27 (by decide) ?_
            exact u_zret C h hr hQ ⟨by decide, by decide⟩ (⟨⟨by decide, by decide⟩, t_5, o_5⟩) (Nat.le_of_ble_eq_true rfl) (Nat.le_of_ble_eq_true rfl) dX10_fitsLong_28
  refine lv_lconst (v := 1) hx hb dX10_fitsLong_0 (by decide) ?_
  refine lv_lstore_n (lv' := [(2, .long 1), (0, .int u0), (1, .int u1)]) hx hb dX10_fitsLong_1 rfl hl (by decide) rfl (fun ls hl => ?_)
  refine lv_iconst (v := 0) hx hb dX10_fitsLong_2 (by decide) ?_
  refine lv_istore (lv' := [(4, .int 0), (2, .long 1), (0, .int u0), (1, .int u1)]) hx hb dX10_fitsLong_3 hl (by decide) rfl (fun ls hl => ?_)
  exact L5 2147483648 ls f s.heap [] 1 0 (by decide) (lv_cons hl 2 rfl (lv_cons hl 3 rfl (lv_cons hl 1 rfl (lv_cons hl 0 rfl (lv_nil hl))))) h t o ⟨by decide, by decide⟩
abbrev rm_s_X10_commonDivisor : Room := { frames := 0, cells := 0, slots := 0, locals := 0 }
set_option maxRecDepth 100000 in
set_option maxHeartbeats 4000000 in
theorem s_X10_commonDivisor (l : Launch) (D : va_G) (G : Nat → Nat) (b0 : Nat) (τ : Nat → Nat) (f : hM) (t : TI G 9 τ f) (u0 : Int32) (hu0 : iv u0 (-2147483648) 2147483647) (u1 : Int32) (hu1 : iv u1 (-2147483648) 2147483647) : mI l yX10_commonDivisor cX10_commonDivisor 6 (.int) rm_s_X10_commonDivisor D G b0 f [.int u0, .int u1] (fun r f1 => iv r (-2147483648) 2147483647 ∧ TI G 9 τ f1 ∧ Fr [] τ f f1) := by
  refine met2 (own := RX10) (by decide) rfl (Nat.le_of_ble_eq_true rfl) ?_
  intro p e s m args below meth c ls Q hQ C hr hini hl h
  have hl : lv_has ls 6 [(0, .int u0), (1, .int u1)] := hl
  obtain ⟨hx, hb, hml, hown, hts, hE0, hlk⟩ := id C
  have o := Fr.rf [] τ f
  have L7 : ∀ (n7 : Nat) (ls : Array Slot) (f_7 : hM) (H : Heap) (locs : List Loc) (v7_2 : Int32) (v7_3 : Int32) (v7_4 : Int32), 100 - v7_4.toInt < (n7 : Int) → lv_has ls 6 [(2, .int v7_2), (3, .int v7_3), (4, .int v7_4)] → hw D b0 s.heap f_7 H locs → TI G 9 τ f_7 → Fr [] τ f f_7 → iv v7_2 (-2147483648) 2147483647 → iv v7_3 (-2147483648) 2147483647 → iv v7_4 0 100 → W p l e rm_s_X10_commonDivisor s m args below meth c H locs 0 0 Q (F0 m 7 ls []) := by
    intro n7
    induction n7 with
    | zero => intro ls f_7 H locs v7_2 v7_3 v7_4 hm7 hl h t_7 o_7 iv7_2 iv7_3 iv7_4; exact absurd hm7 (by omega)
    | succ n7 ih7 =>
      intro ls f_7 H locs v7_2 v7_3 v7_4 hm7 hl h t_7 o_7 iv7_2 iv7_3 iv7_4
      refine lv_iload hx hb dX10_commonDivisor_7 (lv_at hl 2 rfl) ?_
      refine lv_bipush (v := 100) hx hb dX10_commonDivisor_9 (by decide) ?_
      refine lv_icmp_ge (tgt := 34) hx hb dX10_commonDivisor_11 (by decide) (fun c1 => ?_) (fun c1 => ?_)
      · have c2 : 100 ≤ v7_4.toInt := Int32.le_iff_toInt_le.mp c1
        have i3 : iv v7_4 100 100 := iv_Er c2 (iv_k (x := 100) (k := 100) rfl) iv7_4 (by decide)
        refine lv_iload_n hx hb dX10_commonDivisor_34 rfl (lv_at hl 0 rfl) ?_
        exact u_iret C h hr hQ (⟨iv7_2, t_7, o_7⟩) (Nat.le_of_ble_eq_true rfl) (Nat.le_of_ble_eq_true rfl) dX10_commonDivisor_35
      · have c4 : v7_4.toInt < 100 := Int32.lt_iff_toInt_lt.mp (iv_nle c1)
        have i5 : iv v7_4 0 99 := iv_Ll c4 iv7_4 (iv_k (x := 100) (k := 100) rfl) (by decide)
        refine lv_iload_n hx hb dX10_commonDivisor_14 rfl (lv_at hl 1 rfl) ?_
        refine lv_if_eq (tgt := 34) hx hb dX10_commonDivisor_15 (by decide) (fun c6 => ?_) (fun c6 => ?_)
        · have c7 : v7_3.toInt = 0 := congrArg Int32.toInt c6
          have i8 : iv v7_3 0 0 := iv_Q c7 iv7_3 (iv_k (x := 0) (k := 0) rfl) (by decide)
          refine lv_iload_n hx hb dX10_commonDivisor_34 rfl (lv_at hl 0 rfl) ?_
          exact u_iret C h hr hQ (⟨iv7_2, t_7, o_7⟩) (Nat.le_of_ble_eq_true rfl) (Nat.le_of_ble_eq_true rfl) dX10_commonDivisor_35
        · have c9 : v7_3.toInt ≠ 0 := fun z_ => c6 (Int32.toInt_inj.mp z_)
          refine lv_iload_n hx hb dX10_commonDivisor_18 rfl (lv_at hl 0 rfl) ?_
          refine lv_iload_n hx hb dX10_commonDivisor_19 rfl (lv_at hl 1 rfl) ?_
          refine lv_irem hx hb dX10_commonDivisor_20 (inz_o (by omega)) (i_top (iv_any _) (fun z10 ez10 iz10 => ?_))
          refine lv_istore (lv' := [(5, .int z10), (2, .int v7_2), (3, .int v7_3), (4, .int v7_4)]) hx hb dX10_commonDivisor_21 hl (by decide) rfl (fun ls hl => ?_)
          refine lv_iload_n hx hb dX10_commonDivisor_23 rfl (lv_at hl 2 rfl) ?_
          refine lv_istore_n (lv' := [(2, .int v7_3), (5, .int z10), (3, .int v7_3), (4, .int v7_4)]) hx hb dX10_commonDivisor_24 rfl hl (by decide) rfl (fun ls hl => ?_)
          refine lv_iload hx hb dX10_commonDivisor_25 (lv_at hl 1 rfl) ?_
          refine lv_istore_n (lv' := [(3, .int z10), (2, .int v7_3), (5, .int z10), (4, .int v7_4)]) hx hb dX10_commonDivisor_27 rfl hl (by decide) rfl (fun ls hl => ?_)
          refine i_inc hx hb dX10_commonDivisor_28 hl (k := 3) rfl i5 rfl (lo := 1) (hi := 100) (by decide) (by decide) (lv' := fun v => [(4, .int v), (3, .int z10), (2, .int v7_3), (5, .int z10)]) (fun _ => rfl) (fun z11 ls ez11 mz11 iz11 hl => ?_)
          refine lv_goto (tgt := 7) hx hb dX10_commonDivisor_31 (by decide) ?_
          exact ih7 ls f_7 H locs v7_3 z10 z11 (show 100 - z11.toInt < _ by omega) (lv_cons hl 2 rfl (lv_cons hl 1 rfl (lv_cons hl 0 rfl (lv_nil hl)))) h t_7 o_7 iv7_3 iz10 (iv_w iz11 (by decide))
  refine lv_iload_n hx hb dX10_commonDivisor_0 rfl (lv_at hl 0 rfl) ?_
  refine lv_istore_n (lv' := [(2, .int u0), (0, .int u0), (1, .int u1)]) hx hb dX10_commonDivisor_1 rfl hl (by decide) rfl (fun ls hl => ?_)
  refine lv_iload_n hx hb dX10_commonDivisor_2 rfl (lv_at hl 2 rfl) ?_
  refine lv_istore_n (lv' := [(3, .int u1), (2, .int u0), (0, .int u0), (1, .int u1)]) hx hb dX10_commonDivisor_3 rfl hl (by decide) rfl (fun ls hl => ?_)
  refine lv_iconst (v := 0) hx hb dX10_commonDivisor_4 (by decide) ?_
  refine lv_istore (lv' := [(4, .int 0), (3, .int u1), (2, .int u0), (0, .int u0), (1, .int u1)]) hx hb dX10_commonDivisor_5 hl (by decide) rfl (fun ls hl => ?_)
  exact L7 101 ls f s.heap [] u0 u1 0 (by decide) (lv_cons hl 2 rfl (lv_cons hl 1 rfl (lv_cons hl 0 rfl (lv_nil hl)))) h t o hu0 hu1 ⟨by decide, by decide⟩
abbrev rm_s_X10_residue : Room := { frames := 0, cells := 0, slots := 0, locals := 0 }
set_option maxRecDepth 100000 in
set_option maxHeartbeats 4000000 in
theorem s_X10_residue (l : Launch) (D : va_G) (G : Nat → Nat) (b0 : Nat) (τ : Nat → Nat) (f : hM) (t : TI G 9 τ f) (u0 : Int64) : mI l yX10_residue cX10_residue 4 (.int) rm_s_X10_residue D G b0 f [.long u0] (fun r f1 => iv r (-2147483648) 2147483647 ∧ TI G 9 τ f1 ∧ Fr [] τ f f1) := by
  refine met2 (own := RX10) (by decide) rfl (Nat.le_of_ble_eq_true rfl) ?_
  intro p e s m args below meth c ls Q hQ C hr hini hl h
  have hl : lv_has ls 4 [(0, .long u0)] := hl
  obtain ⟨hx, hb, hml, hown, hts, hE0, hlk⟩ := id C
  have o := Fr.rf [] τ f
  refine lv_lload_n hx hb dX10_residue_0 rfl (lv_at hl 0 rfl) ?_
  refine lv_ldc2 (v := 1000003) hx hb hown (hts _ w_743) dX10_residue_1 ?_
  refine lv_lrem hx hb dX10_residue_4 (by decide) (i_topl (lrem_iv (k := 1000003) rfl (by decide) (lo := -1000002) (hi := 1000002) (by decide)) (fun w1 ew1 iw1 => ?_))
  refine lv_lstore_n (lv' := [(2, .long w1), (0, .long u0)]) hx hb dX10_residue_5 rfl hl (by decide) rfl (fun ls hl => ?_)
  refine lv_lload_n hx hb dX10_residue_6 rfl (lv_at hl 0 rfl) ?_
  refine lv_lconst (v := 0) hx hb dX10_residue_7 (by decide) ?_
  refine W.lcmp hx hb dX10_residue_8 (i_topc (fun z2 ez2 mz2 iz2 => ?_))
  refine lv_if_ge (tgt := 20) hx hb dX10_residue_9 (by decide) (fun c3 => ?_) (fun c3 => ?_)
  · have c4 : 0 ≤ z2.toInt := Int32.le_iff_toInt_le.mp c3
    have i5 : iv z2 0 1 := iv_Er c4 (iv_k (x := 0) (k := 0) rfl) iz2 (by decide)
    refine lv_lload_n hx hb dX10_residue_20 rfl (lv_at hl 0 rfl) ?_
    refine lv_l2i hx hb dX10_residue_21 rfl (i_top (iv_l2i iw1 (by decide)) (fun z8 ez8 iz8 => ?_))
    exact u_iret C h hr hQ (⟨(iv_w iz8 (by decide)), t, o⟩) (Nat.le_of_ble_eq_true rfl) (Nat.le_of_ble_eq_true rfl) dX10_residue_22
  · have c6 : z2.toInt < 0 := Int32.lt_iff_toInt_lt.mp (iv_nle c3)
    have i7 : iv z2 (-1) (-1) := iv_Ll c6 iz2 (iv_k (x := 0) (k := 0) rfl) (by decide)
    refine lv_lload_n hx hb dX10_residue_12 rfl (lv_at hl 0 rfl) ?_
    refine lv_ldc2 (v := 1000003) hx hb hown (hts _ w_743) dX10_residue_13 ?_
    refine lv_ladd hx hb dX10_residue_16 (lv_topl (fun w9 ew9 => ?_))
    refine lv_goto (tgt := 21) hx hb dX10_residue_17 (by decide) ?_
    refine lv_l2i hx hb dX10_residue_21 rfl (i_top (iv_any _) (fun z10 ez10 iz10 => ?_))
    exact u_iret C h hr hQ (⟨iz10, t, o⟩) (Nat.le_of_ble_eq_true rfl) (Nat.le_of_ble_eq_true rfl) dX10_residue_22
abbrev rm_s_X10_times : Room := { frames := 0, cells := 0, slots := 0, locals := 0 }
set_option maxRecDepth 100000 in
set_option maxHeartbeats 4000000 in
theorem s_X10_times (l : Launch) (D : va_G) (G : Nat → Nat) (b0 : Nat) (τ : Nat → Nat) (f : hM) (t : TI G 9 τ f) (u0 : Int64) (u1 : Int64) : mI l yX10_times cX10_times 4 (.int) rm_s_X10_times D G b0 f [.long u0, .long u1] (fun r f1 => iv r (-1000002) 1000002 ∧ TI G 9 τ f1 ∧ Fr [] τ f f1) := by
  refine met2 (own := RX10) (by decide) rfl (Nat.le_of_ble_eq_true rfl) ?_
  intro p e s m args below meth c ls Q hQ C hr hini hl h
  have hl : lv_has ls 4 [(0, .long u0), (2, .long u1)] := hl
  obtain ⟨hx, hb, hml, hown, hts, hE0, hlk⟩ := id C
  have o := Fr.rf [] τ f
  refine lv_lload_n hx hb dX10_times_0 rfl (lv_at hl 0 rfl) ?_
  refine lv_lload_n hx hb dX10_times_1 rfl (lv_at hl 1 rfl) ?_
  refine lv_lmul hx hb dX10_times_2 (lv_topl (fun w1 ew1 => ?_))
  refine lv_ldc2 (v := 1000003) hx hb hown (hts _ w_743) dX10_times_3 ?_
  refine lv_lrem hx hb dX10_times_6 (by decide) (i_topl (lrem_iv (k := 1000003) rfl (by decide) (lo := -1000002) (hi := 1000002) (by decide)) (fun w2 ew2 iw2 => ?_))
  refine lv_l2i hx hb dX10_times_7 rfl (i_top (iv_l2i iw2 (by decide)) (fun z3 ez3 iz3 => ?_))
  exact u_iret C h hr hQ (⟨iz3, t, o⟩) (Nat.le_of_ble_eq_true rfl) (Nat.le_of_ble_eq_true rfl) dX10_times_8
abbrev rm_s_X10_inverse : Room := { frames := 0, cells := 0, slots := 0, locals := 0 }
set_option maxRecDepth 100000 in
set_option maxHeartbeats 4000000 in
theorem s_X10_inverse (l : Launch) (D : va_G) (G : Nat → Nat) (b0 : Nat) (τ : Nat → Nat) (f : hM) (t : TI G 9 τ f) (u0 : Int32) (hu0 : iv u0 (-2147483648) 2147483647) : mI l yX10_inverse cX10_inverse 6 (.int) rm_s_X10_inverse D G b0 f [.int u0] (fun r f1 => iv r (-1000002) 1000002 ∧ TI G 9 τ f1 ∧ Fr [] τ f f1) := by
  refine met2 (own := RX10) (by decide) rfl (Nat.le_of_ble_eq_true rfl) ?_
  intro p e s m args below meth c ls Q hQ C hr hini hl h
  have hl : lv_has ls 6 [(0, .int u0)] := hl
  obtain ⟨hx, hb, hml, hown, hts, hE0, hlk⟩ := id C
  have o := Fr.rf [] τ f
  have L10 : ∀ (n10 : Nat) (ls : Array Slot) (f_10 : hM) (H : Heap) (locs : List Loc) (v10_1 : Int64) (v10_3 : Int64) (v10_5 : Int32), v10_5.toInt < (n10 : Int) → lv_has ls 6 [(1, .long v10_1), (3, .long v10_3), (5, .int v10_5)] → hw D b0 s.heap f_10 H locs → TI G 9 τ f_10 → Fr [] τ f f_10 → ivl v10_1 (-1000002) 1000002 → ivl v10_3 (-2147483648) 2147483647 → iv v10_5 0 1000001 → W p l e rm_s_X10_inverse s m args below meth c H locs 0 0 Q (F0 m 10 ls []) := by
    intro n10
    induction n10 with
    | zero => intro ls f_10 H locs v10_1 v10_3 v10_5 hm10 hl h t_10 o_10 iv10_1 iv10_3 iv10_5; exact absurd hm10 (by omega)
    | succ n10 ih10 =>
      intro ls f_10 H locs v10_1 v10_3 v10_5 hm10 hl h t_10 o_10 iv10_1 iv10_3 iv10_5
      refine lv_iload hx hb dX10_inverse_10 (lv_at hl 2 rfl) ?_
      refine lv_if_le (tgt := 47) hx hb dX10_inverse_12 (by decide) (fun c1 => ?_) (fun c1 => ?_)
      · have c2 : v10_5.toInt ≤ 0 := Int32.le_iff_toInt_le.mp c1
        have i3 : iv v10_5 0 0 := iv_El c2 iv10_5 (iv_k (x := 0) (k := 0) rfl) (by decide)
        refine lv_lload_n hx hb dX10_inverse_47 rfl (lv_at hl 0 rfl) ?_
        refine lv_l2i hx hb dX10_inverse_48 rfl (i_top (iv_l2i iv10_1 (by decide)) (fun z6 ez6 iz6 => ?_))
        exact u_iret C h hr hQ (⟨iz6, t_10, o_10⟩) (Nat.le_of_ble_eq_true rfl) (Nat.le_of_ble_eq_true rfl) dX10_inverse_49
      · have c4 : 0 < v10_5.toInt := Int32.lt_iff_toInt_lt.mp (iv_nle c1)
        have i5 : iv v10_5 1 1000001 := iv_Lr c4 (iv_k (x := 0) (k := 0) rfl) iv10_5 (by decide)
        refine lv_iload hx hb dX10_inverse_15 (lv_at hl 2 rfl) ?_
        refine lv_iconst (v := 1) hx hb dX10_inverse_17 (by decide) ?_
        refine lv_iand hx hb dX10_inverse_18 (i_top (iv_and (k := 1) rfl (by decide)) (fun z7 ez7 iz7 => ?_))
        refine lv_if_eq (tgt := 30) hx hb dX10_inverse_19 (by decide) (fun c8 => ?_) (fun c8 => ?_)
        · have c9 : z7.toInt = 0 := congrArg Int32.toInt c8
          have i10 : iv z7 0 0 := iv_Q c9 iz7 (iv_k (x := 0) (k := 0) rfl) (by decide)
          refine lv_lload_n hx hb dX10_inverse_30 rfl (lv_at hl 1 rfl) ?_
          refine lv_lload_n hx hb dX10_inverse_31 rfl (lv_at hl 1 rfl) ?_
          refine lv_lmul hx hb dX10_inverse_32 (lv_topl (fun w13 ew13 => ?_))
          refine lv_ldc2 (v := 1000003) hx hb hown (hts _ w_743) dX10_inverse_33 ?_
          refine lv_lrem hx hb dX10_inverse_36 (by decide) (i_topl (lrem_iv (k := 1000003) rfl (by decide) (lo := -1000002) (hi := 1000002) (by decide)) (fun w14 ew14 iw14 => ?_))
          refine lv_lstore_n (lv' := [(3, .long w14), (1, .long v10_1), (5, .int v10_5)]) hx hb dX10_inverse_37 rfl hl (by decide) rfl (fun ls hl => ?_)
          refine lv_iload hx hb dX10_inverse_38 (lv_at hl 2 rfl) ?_
          refine lv_iconst (v := 1) hx hb dX10_inverse_40 (by decide) ?_
          refine lv_ishr hx hb dX10_inverse_41 (i_topm (P := fun q_ => q_ = Int32.toInt v10_5 / 2) (iv_shr1 i5 (lo := 0) (hi := 500000) (by decide)) (fun z15 ez15 mz15 iz15 => ?_))
          refine lv_istore (lv' := [(5, .int z15), (3, .long w14), (1, .long v10_1)]) hx hb dX10_inverse_42 hl (by decide) rfl (fun ls hl => ?_)
          refine lv_goto (tgt := 10) hx hb dX10_inverse_44 (by decide) ?_
          exact ih10 ls f_10 H locs v10_1 w14 z15 (show z15.toInt < _ by omega) (lv_cons hl 2 rfl (lv_cons hl 1 rfl (lv_cons hl 0 rfl (lv_nil hl)))) h t_10 o_10 (ivl_w iv10_1 (by decide)) (ivl_w iw14 (by decide)) (iv_w iz15 (by decide))
        · have c11 : z7.toInt ≠ 0 := fun z_ => c8 (Int32.toInt_inj.mp z_)
          have i12 : iv z7 1 1 := iv_Nl c11 iz7 (by decide)
          refine lv_lload_n hx hb dX10_inverse_22 rfl (lv_at hl 0 rfl) ?_
          refine lv_lload_n hx hb dX10_inverse_23 rfl (lv_at hl 1 rfl) ?_
          refine lv_lmul hx hb dX10_inverse_24 (lv_topl (fun w16 ew16 => ?_))
          refine lv_ldc2 (v := 1000003) hx hb hown (hts _ w_743) dX10_inverse_25 ?_
          refine lv_lrem hx hb dX10_inverse_28 (by decide) (i_topl (lrem_iv (k := 1000003) rfl (by decide) (lo := -1000002) (hi := 1000002) (by decide)) (fun w17 ew17 iw17 => ?_))
          refine lv_lstore_n (lv' := [(1, .long w17), (3, .long v10_3), (5, .int v10_5)]) hx hb dX10_inverse_29 rfl hl (by decide) rfl (fun ls hl => ?_)
          refine lv_lload_n hx hb dX10_inverse_30 rfl (lv_at hl 1 rfl) ?_
          refine lv_lload_n hx hb dX10_inverse_31 rfl (lv_at hl 1 rfl) ?_
          refine lv_lmul hx hb dX10_inverse_32 (lv_topl (fun w18 ew18 => ?_))
          refine lv_ldc2 (v := 1000003) hx hb hown (hts _ w_743) dX10_inverse_33 ?_
          refine lv_lrem hx hb dX10_inverse_36 (by decide) (i_topl (lrem_iv (k := 1000003) rfl (by decide) (lo := -1000002) (hi := 1000002) (by decide)) (fun w19 ew19 iw19 => ?_))
          refine lv_lstore_n (lv' := [(3, .long w19), (1, .long w17), (5, .int v10_5)]) hx hb dX10_inverse_37 rfl hl (by decide) rfl (fun ls hl => ?_)
          refine lv_iload hx hb dX10_inverse_38 (lv_at hl 2 rfl) ?_
          refine lv_iconst (v := 1) hx hb dX10_inverse_40 (by decide) ?_
          refine lv_ishr hx hb dX10_inverse_41 (i_topm (P := fun q_ => q_ = Int32.toInt v10_5 / 2) (iv_shr1 i5 (lo := 0) (hi := 500000) (by decide)) (fun z20 ez20 mz20 iz20 => ?_))
          refine lv_istore (lv' := [(5, .int z20), (3, .long w19), (1, .long w17)]) hx hb dX10_inverse_42 hl (by decide) rfl (fun ls hl => ?_)
          refine lv_goto (tgt := 10) hx hb dX10_inverse_44 (by decide) ?_
          exact ih10 ls f_10 H locs w17 w19 z20 (show z20.toInt < _ by omega) (lv_cons hl 2 rfl (lv_cons hl 1 rfl (lv_cons hl 0 rfl (lv_nil hl)))) h t_10 o_10 (ivl_w iw17 (by decide)) (ivl_w iw19 (by decide)) (iv_w iz20 (by decide))
  refine lv_lconst (v := 1) hx hb dX10_inverse_0 (by decide) ?_
  refine lv_lstore_n (lv' := [(1, .long 1), (0, .int u0)]) hx hb dX10_inverse_1 rfl hl (by decide) rfl (fun ls hl => ?_)
  refine lv_iload_n hx hb dX10_inverse_2 rfl (lv_at hl 1 rfl) ?_
  refine lv_i2l hx hb dX10_inverse_3 rfl (i_topL hu0 (fun w21 ew21 mw21 iw21 => ?_))
  refine lv_lstore_n (lv' := [(3, .long w21), (1, .long 1), (0, .int u0)]) hx hb dX10_inverse_4 rfl hl (by decide) rfl (fun ls hl => ?_)
  refine lv_ldcw (v := 1000001) hx hb hown (hts _ w_812) dX10_inverse_5 ?_
  refine lv_istore (lv' := [(5, .int 1000001), (3, .long w21), (1, .long 1), (0, .int u0)]) hx hb dX10_inverse_8 hl (by decide) rfl (fun ls hl => ?_)
  exact L10 1000002 ls f s.heap [] 1 w21 1000001 (by decide) (lv_cons hl 2 rfl (lv_cons hl 1 rfl (lv_cons hl 0 rfl (lv_nil hl)))) h t o (ivl_w (ivl_k (x := 1) (k := 1) rfl) (by decide)) (ivl_w iw21 (by decide)) ⟨by decide, by decide⟩
abbrev rm_s_X6_weightTotal : Room := { frames := 0, cells := 0, slots := 0, locals := 0 }
set_option maxRecDepth 100000 in
set_option maxHeartbeats 4000000 in
theorem s_X6_weightTotal (l : Launch) (D : va_G) (G : Nat → Nat) (b0 : Nat) (τ : Nat → Nat) (f : hM) (t : TI G 9 τ f) (u0 : Nat) (hu0 : τ u0 = 1) : mI l yX6_weightTotal cX6_weightTotal 6 (.int) rm_s_X6_weightTotal D G b0 f [.ref u0] (fun r f1 => iv r (-2147483648) 2147483647 ∧ TI G 9 τ f1 ∧ Fr [] τ f f1) := by
  refine met2 (own := RX6) (by decide) rfl (Nat.le_of_ble_eq_true rfl) ?_
  intro p e s m args below meth c ls Q hQ C hr hini hl h
  have hl : lv_has ls 6 [(0, .ref u0)] := hl
  obtain ⟨hx, hb, hml, hown, hts, hE0, hlk⟩ := id C
  have o := Fr.rf [] τ f
  have L13 : ∀ (n13 : Nat) (ls : Array Slot) (f_13 : hM) (H : Heap) (locs : List Loc) (v13_1 : Int32) (v13_2 : Nat) (v13_3 : Int32) (v13_4 : Int32), 8 - v13_4.toInt < (n13 : Int) → lv_has ls 6 [(1, .int v13_1), (2, .ref v13_2), (3, .int v13_3), (4, .int v13_4)] → hw D b0 s.heap f_13 H locs → TI G 9 τ f_13 → Fr [] τ f f_13 → iv v13_1 (-2147483648) 2147483647 → τ v13_2 = 2 → iv v13_3 8 8 → iv v13_4 0 8 → W p l e rm_s_X6_weightTotal s m args below meth c H locs 0 0 Q (F0 m 13 ls []) := by
    intro n13
    induction n13 with
    | zero => intro ls f_13 H locs v13_1 v13_2 v13_3 v13_4 hm13 hl h t_13 o_13 iv13_1 tv13_2 iv13_3 iv13_4; exact absurd hm13 (by omega)
    | succ n13 ih13 =>
      intro ls f_13 H locs v13_1 v13_2 v13_3 v13_4 hm13 hl h t_13 o_13 iv13_1 tv13_2 iv13_3 iv13_4
      refine lv_iload hx hb dX6_weightTotal_13 (lv_at hl 3 rfl) ?_
      refine lv_iload_n hx hb dX6_weightTotal_15 rfl (lv_at hl 2 rfl) ?_
      refine lv_icmp_ge (tgt := 36) hx hb dX6_weightTotal_16 (by decide) (fun c1 => ?_) (fun c1 => ?_)
      · have c2 : v13_3.toInt ≤ v13_4.toInt := Int32.le_iff_toInt_le.mp c1
        have i3 : iv v13_4 8 8 := iv_Er c2 iv13_3 iv13_4 (by decide)
        refine lv_iload_n hx hb dX6_weightTotal_36 rfl (lv_at hl 0 rfl) ?_
        exact u_iret C h hr hQ (⟨iv13_1, t_13, o_13⟩) (Nat.le_of_ble_eq_true rfl) (Nat.le_of_ble_eq_true rfl) dX6_weightTotal_37
      · have c4 : v13_4.toInt < v13_3.toInt := Int32.lt_iff_toInt_lt.mp (iv_nle c1)
        have i5 : iv v13_4 0 7 := iv_Ll c4 iv13_4 iv13_3 (by decide)
        refine lv_aload_n hx hb dX6_weightTotal_19 rfl (lv_at hl 1 rfl) ?_
        refine lv_iload hx hb dX6_weightTotal_20 (lv_at hl 3 rfl) ?_
        refine t_iald C h t_13 tv13_2 (by decide) wf_2 (iv_in i5 (by decide)) dX6_weightTotal_22 (fun z6 iz6 => ?_)
        refine lv_istore (lv' := [(5, .int z6), (1, .int v13_1), (2, .ref v13_2), (3, .int v13_3), (4, .int v13_4)]) hx hb dX6_weightTotal_23 hl (by decide) rfl (fun ls hl => ?_)
        refine lv_iload_n hx hb dX6_weightTotal_25 rfl (lv_at hl 1 rfl) ?_
        refine lv_iload hx hb dX6_weightTotal_26 (lv_at hl 0 rfl) ?_
        refine lv_iadd hx hb dX6_weightTotal_28 (i_top (iv_any _) (fun z7 ez7 iz7 => ?_))
        refine lv_istore_n (lv' := [(1, .int z7), (5, .int z6), (2, .ref v13_2), (3, .int v13_3), (4, .int v13_4)]) hx hb dX6_weightTotal_29 rfl hl (by decide) rfl (fun ls hl => ?_)
        refine i_inc hx hb dX6_weightTotal_30 hl (k := 4) rfl i5 rfl (lo := 1) (hi := 8) (by decide) (by decide) (lv' := fun v => [(4, .int v), (1, .int z7), (5, .int z6), (2, .ref v13_2), (3, .int v13_3)]) (fun _ => rfl) (fun z8 ls ez8 mz8 iz8 hl => ?_)
        refine lv_goto (tgt := 13) hx hb dX6_weightTotal_33 (by decide) ?_
        exact ih13 ls f_13 H locs z7 v13_2 v13_3 z8 (show 8 - z8.toInt < _ by omega) (lv_cons hl 1 rfl (lv_cons hl 3 rfl (lv_cons hl 4 rfl (lv_cons hl 0 rfl (lv_nil hl))))) h t_13 o_13 iz7 tv13_2 iv13_3 (iv_w iz8 (by decide))
  refine lv_iconst (v := 0) hx hb dX6_weightTotal_0 (by decide) ?_
  refine lv_istore_n (lv' := [(1, .int 0), (0, .ref u0)]) hx hb dX6_weightTotal_1 rfl hl (by decide) rfl (fun ls hl => ?_)
  refine lv_aload_n hx hb dX6_weightTotal_2 rfl (lv_at hl 1 rfl) ?_
  refine t_getr (tq := 2) C h t hu0 (by decide) wf_1 rfl fl_X6_15 dX6_weightTotal_3 (fun q9 tq9 => ?_)
  refine lv_astore_n (lv' := [(2, .ref q9), (1, .int 0), (0, .ref u0)]) hx hb dX6_weightTotal_6 rfl hl (by decide) rfl (fun ls hl => ?_)
  refine lv_aload_n hx hb dX6_weightTotal_7 rfl (lv_at hl 0 rfl) ?_
  refine t_alen C h t tq9 (by decide) (n := 8) (v := 8) (fun e_ h_ => Or.inl ⟨_, _, wf_2 e_ h_⟩) rfl dX6_weightTotal_8 ?_
  refine lv_istore_n (lv' := [(3, .int 8), (2, .ref q9), (1, .int 0), (0, .ref u0)]) hx hb dX6_weightTotal_9 rfl hl (by decide) rfl (fun ls hl => ?_)
  refine lv_iconst (v := 0) hx hb dX6_weightTotal_10 (by decide) ?_
  refine lv_istore (lv' := [(4, .int 0), (3, .int 8), (2, .ref q9), (1, .int 0), (0, .ref u0)]) hx hb dX6_weightTotal_11 hl (by decide) rfl (fun ls hl => ?_)
  exact L13 9 ls f s.heap [] 0 q9 8 0 (by decide) (lv_cons hl 3 rfl (lv_cons hl 2 rfl (lv_cons hl 1 rfl (lv_cons hl 0 rfl (lv_nil hl))))) h t o ⟨by decide, by decide⟩ tq9 ⟨by decide, by decide⟩ ⟨by decide, by decide⟩
abbrev rm_s_X6_bits : Room := { frames := 0, cells := 0, slots := 0, locals := 0 }
set_option maxRecDepth 100000 in
set_option maxHeartbeats 4000000 in
theorem s_X6_bits (l : Launch) (D : va_G) (G : Nat → Nat) (b0 : Nat) (τ : Nat → Nat) (f : hM) (t : TI G 9 τ f) (u0 : Nat) (hu0 : τ u0 = 1) : mI l yX6_bits cX6_bits 3 (.int) rm_s_X6_bits D G b0 f [.ref u0] (fun r f1 => iv r (-2147483648) 2147483647 ∧ TI G 9 τ f1 ∧ Fr [] τ f f1) := by
  refine met2 (own := RX6) (by decide) rfl (Nat.le_of_ble_eq_true rfl) ?_
  intro p e s m args below meth c ls Q hQ C hr hini hl h
  have hl : lv_has ls 3 [(0, .ref u0)] := hl
  obtain ⟨hx, hb, hml, hown, hts, hE0, hlk⟩ := id C
  have o := Fr.rf [] τ f
  have L4 : ∀ (n4 : Nat) (ls : Array Slot) (f_4 : hM) (H : Heap) (locs : List Loc) (v4_1 : Int32) (v4_2 : Int32), 8 - v4_2.toInt < (n4 : Int) → lv_has ls 3 [(0, .ref u0), (1, .int v4_1), (2, .int v4_2)] → hw D b0 s.heap f_4 H locs → TI G 9 τ f_4 → Fr [] τ f f_4 → iv v4_1 (-2147483648) 2147483647 → iv v4_2 0 8 → W p l e rm_s_X6_bits s m args below meth c H locs 0 0 Q (F0 m 4 ls []) := by
    intro n4
    induction n4 with
    | zero => intro ls f_4 H locs v4_1 v4_2 hm4 hl h t_4 o_4 iv4_1 iv4_2; exact absurd hm4 (by omega)
    | succ n4 ih4 =>
      intro ls f_4 H locs v4_1 v4_2 hm4 hl h t_4 o_4 iv4_1 iv4_2
      refine lv_iload_n hx hb dX6_bits_4 rfl (lv_at hl 2 rfl) ?_
      refine lv_bipush (v := 8) hx hb dX6_bits_5 (by decide) ?_
      refine lv_icmp_ge (tgt := 31) hx hb dX6_bits_7 (by decide) (fun c1 => ?_) (fun c1 => ?_)
      · have c2 : 8 ≤ v4_2.toInt := Int32.le_iff_toInt_le.mp c1
        have i3 : iv v4_2 8 8 := iv_Er c2 (iv_k (x := 8) (k := 8) rfl) iv4_2 (by decide)
        refine lv_iload_n hx hb dX6_bits_31 rfl (lv_at hl 1 rfl) ?_
        exact u_iret C h hr hQ (⟨iv4_1, t_4, o_4⟩) (Nat.le_of_ble_eq_true rfl) (Nat.le_of_ble_eq_true rfl) dX6_bits_32
      · have c4 : v4_2.toInt < 8 := Int32.lt_iff_toInt_lt.mp (iv_nle c1)
        have i5 : iv v4_2 0 7 := iv_Ll c4 iv4_2 (iv_k (x := 8) (k := 8) rfl) (by decide)
        refine lv_aload_n hx hb dX6_bits_10 rfl (lv_at hl 0 rfl) ?_
        refine t_getr (tq := 2) C h t_4 hu0 (by decide) wf_1 rfl fl_X6_15 dX6_bits_11 (fun q6 tq6 => ?_)
        refine lv_iload_n hx hb dX6_bits_14 rfl (lv_at hl 2 rfl) ?_
        refine t_iald C h t_4 tq6 (by decide) wf_2 (iv_in i5 (by decide)) dX6_bits_15 (fun z7 iz7 => ?_)
        refine lv_if_eq (tgt := 25) hx hb dX6_bits_16 (by decide) (fun c8 => ?_) (fun c8 => ?_)
        · have c9 : z7.toInt = 0 := congrArg Int32.toInt c8
          have i10 : iv z7 0 0 := iv_Q c9 iz7 (iv_k (x := 0) (k := 0) rfl) (by decide)
          refine i_inc hx hb dX6_bits_25 hl (k := 2) rfl i5 rfl (lo := 1) (hi := 8) (by decide) (by decide) (lv' := fun v => [(2, .int v), (0, .ref u0), (1, .int v4_1)]) (fun _ => rfl) (fun z13 ls ez13 mz13 iz13 hl => ?_)
          refine lv_goto (tgt := 4) hx hb dX6_bits_28 (by decide) ?_
          exact ih4 ls f_4 H locs v4_1 z13 (show 8 - z13.toInt < _ by omega) (lv_cons hl 1 rfl (lv_cons hl 2 rfl (lv_cons hl 0 rfl (lv_nil hl)))) h t_4 o_4 iv4_1 (iv_w iz13 (by decide))
        · have c11 : z7.toInt ≠ 0 := fun z_ => c8 (Int32.toInt_inj.mp z_)
          have i12 : iv z7 1 9 := iv_Nl c11 iz7 (by decide)
          refine lv_iload_n hx hb dX6_bits_19 rfl (lv_at hl 1 rfl) ?_
          refine lv_iconst (v := 1) hx hb dX6_bits_20 (by decide) ?_
          refine lv_iload_n hx hb dX6_bits_21 rfl (lv_at hl 2 rfl) ?_
          refine lv_ishl hx hb dX6_bits_22 (i_top (iv_any _) (fun z14 ez14 iz14 => ?_))
          refine lv_ior hx hb dX6_bits_23 (i_top (iv_any _) (fun z15 ez15 iz15 => ?_))
          refine lv_istore_n (lv' := [(1, .int z15), (0, .ref u0), (2, .int v4_2)]) hx hb dX6_bits_24 rfl hl (by decide) rfl (fun ls hl => ?_)
          refine i_inc hx hb dX6_bits_25 hl (k := 2) rfl i5 rfl (lo := 1) (hi := 8) (by decide) (by decide) (lv' := fun v => [(2, .int v), (1, .int z15), (0, .ref u0)]) (fun _ => rfl) (fun z16 ls ez16 mz16 iz16 hl => ?_)
          refine lv_goto (tgt := 4) hx hb dX6_bits_28 (by decide) ?_
          exact ih4 ls f_4 H locs z15 z16 (show 8 - z16.toInt < _ by omega) (lv_cons hl 2 rfl (lv_cons hl 1 rfl (lv_cons hl 0 rfl (lv_nil hl)))) h t_4 o_4 iz15 (iv_w iz16 (by decide))
  refine lv_iconst (v := 0) hx hb dX6_bits_0 (by decide) ?_
  refine lv_istore_n (lv' := [(1, .int 0), (0, .ref u0)]) hx hb dX6_bits_1 rfl hl (by decide) rfl (fun ls hl => ?_)
  refine lv_iconst (v := 0) hx hb dX6_bits_2 (by decide) ?_
  refine lv_istore_n (lv' := [(2, .int 0), (1, .int 0), (0, .ref u0)]) hx hb dX6_bits_3 rfl hl (by decide) rfl (fun ls hl => ?_)
  exact L4 9 ls f s.heap [] 0 0 (by decide) (lv_cons hl 2 rfl (lv_cons hl 1 rfl (lv_cons hl 0 rfl (lv_nil hl)))) h t o ⟨by decide, by decide⟩ ⟨by decide, by decide⟩
abbrev rm_s_X6_driftd0 : Room := { frames := 0, cells := 0, slots := 0, locals := 0 }
set_option maxRecDepth 100000 in
set_option maxHeartbeats 4000000 in
theorem s_X6_driftd0 (l : Launch) (D : va_G) (G : Nat → Nat) (b0 : Nat) (τ : Nat → Nat) (f : hM) (t : TI G 9 τ f) (u0 : Nat) (hu0 : τ u0 = 1) : mI l yX6_drift cX6_drift 4 (.int) rm_s_X6_driftd0 D G b0 f [.ref u0, .ref (G (60 + 0))] (fun r f1 => iv r (-2147483648) 2147483647 ∧ TI G 9 τ f1 ∧ Fr [] τ f f1) := by
  refine met2 (own := RX6) (by decide) rfl (Nat.le_of_ble_eq_true rfl) ?_
  intro p e s m args below meth c ls Q hQ C hr hini hl h
  have hl : lv_has ls 4 [(0, .ref u0), (1, .ref (G (60 + 0)))] := hl
  obtain ⟨hx, hb, hml, hown, hts, hE0, hlk⟩ := id C
  have o := Fr.rf [] τ f
  have L4 : ∀ (n4 : Nat) (ls : Array Slot) (f_4 : hM) (H : Heap) (locs : List Loc) (v4_2 : Int32) (v4_3 : Int32), 8 - v4_3.toInt < (n4 : Int) → lv_has ls 4 [(0, .ref u0), (1, .ref (G (60 + 0))), (2, .int v4_2), (3, .int v4_3)] → hw D b0 s.heap f_4 H locs → TI G 9 τ f_4 → Fr [] τ f f_4 → iv v4_2 (-2147483648) 2147483647 → iv v4_3 0 8 → W p l e rm_s_X6_driftd0 s m args below meth c H locs 0 0 Q (F0 m 4 ls []) := by
    intro n4
    induction n4 with
    | zero => intro ls f_4 H locs v4_2 v4_3 hm4 hl h t_4 o_4 iv4_2 iv4_3; exact absurd hm4 (by omega)
    | succ n4 ih4 =>
      intro ls f_4 H locs v4_2 v4_3 hm4 hl h t_4 o_4 iv4_2 iv4_3
      refine lv_iload_n hx hb dX6_drift_4 rfl (lv_at hl 3 rfl) ?_
      refine lv_bipush (v := 8) hx hb dX6_drift_5 (by decide) ?_
      refine lv_icmp_ge (tgt := 35) hx hb dX6_drift_7 (by decide) (fun c1 => ?_) (fun c1 => ?_)
      · have c2 : 8 ≤ v4_3.toInt := Int32.le_iff_toInt_le.mp c1
        have i3 : iv v4_3 8 8 := iv_Er c2 (iv_k (x := 8) (k := 8) rfl) iv4_3 (by decide)
        refine lv_iload_n hx hb dX6_drift_35 rfl (lv_at hl 2 rfl) ?_
        exact u_iret C h hr hQ (⟨iv4_2, t_4, o_4⟩) (Nat.le_of_ble_eq_true rfl) (Nat.le_of_ble_eq_true rfl) dX6_drift_36
      · have c4 : v4_3.toInt < 8 := Int32.lt_iff_toInt_lt.mp (iv_nle c1)
        have i5 : iv v4_3 0 7 := iv_Ll c4 iv4_3 (iv_k (x := 8) (k := 8) rfl) (by decide)
        refine lv_iload_n hx hb dX6_drift_10 rfl (lv_at hl 3 rfl) ?_
        refine lv_aload_n hx hb dX6_drift_11 rfl (lv_at hl 1 rfl) ?_
        refine st_len C h (k := 0) (by decide) dX6_drift_12 ?_
        refine lv_icmp_ge (tgt := 35) hx hb dX6_drift_13 (by decide) (fun c6 => ?_) (fun c6 => ?_)
        · have c7 : 8 ≤ v4_3.toInt := Int32.le_iff_toInt_le.mp c6
          exact (iv_ce_ c7 (iv_k (x := 8) (k := 8) rfl) i5 (by decide)).elim
        · have c8 : v4_3.toInt < 8 := Int32.lt_iff_toInt_lt.mp (iv_nle c6)
          refine lv_iload_n hx hb dX6_drift_16 rfl (lv_at hl 2 rfl) ?_
          refine lv_aload_n hx hb dX6_drift_17 rfl (lv_at hl 0 rfl) ?_
          refine t_getr (tq := 2) C h t_4 hu0 (by decide) wf_1 rfl fl_X6_15 dX6_drift_18 (fun q9 tq9 => ?_)
          refine lv_iload_n hx hb dX6_drift_21 rfl (lv_at hl 3 rfl) ?_
          refine t_iald C h t_4 tq9 (by decide) wf_2 (iv_in i5 (by decide)) dX6_drift_22 (fun z10 iz10 => ?_)
          refine lv_aload_n hx hb dX6_drift_23 rfl (lv_at hl 1 rfl) ?_
          refine lv_iload_n hx hb dX6_drift_24 rfl (lv_at hl 3 rfl) ?_
          refine st_ald C h (k := 0) (by decide) st_b0 (iv_in i5 (by decide)) dX6_drift_25 (fun z11 ez11 iz11 => ?_)
          refine i_muls (k1 := 9) (k2 := 1) hx hb dX6_drift_26 (iv_w iz10 (by decide)) (iv_w iz11 (by decide)) (lo := (-9)) (hi := 9) (by decide) (fun z12 ez12 iz12 => ?_)
          refine lv_iadd hx hb dX6_drift_27 (i_top (iv_any _) (fun z13 ez13 iz13 => ?_))
          refine lv_istore_n (lv' := [(2, .int z13), (0, .ref u0), (1, .ref (G (60 + 0))), (3, .int v4_3)]) hx hb dX6_drift_28 rfl hl (by decide) rfl (fun ls hl => ?_)
          refine i_inc hx hb dX6_drift_29 hl (k := 3) rfl i5 rfl (lo := 1) (hi := 8) (by decide) (by decide) (lv' := fun v => [(3, .int v), (2, .int z13), (0, .ref u0), (1, .ref (G (60 + 0)))]) (fun _ => rfl) (fun z14 ls ez14 mz14 iz14 hl => ?_)
          refine lv_goto (tgt := 4) hx hb dX6_drift_32 (by decide) ?_
          exact ih4 ls f_4 H locs z13 z14 (show 8 - z14.toInt < _ by omega) (lv_cons hl 2 rfl (lv_cons hl 3 rfl (lv_cons hl 1 rfl (lv_cons hl 0 rfl (lv_nil hl))))) h t_4 o_4 iz13 (iv_w iz14 (by decide))
  refine lv_iconst (v := 0) hx hb dX6_drift_0 (by decide) ?_
  refine lv_istore_n (lv' := [(2, .int 0), (0, .ref u0), (1, .ref (G (60 + 0)))]) hx hb dX6_drift_1 rfl hl (by decide) rfl (fun ls hl => ?_)
  refine lv_iconst (v := 0) hx hb dX6_drift_2 (by decide) ?_
  refine lv_istore_n (lv' := [(3, .int 0), (2, .int 0), (0, .ref u0), (1, .ref (G (60 + 0)))]) hx hb dX6_drift_3 rfl hl (by decide) rfl (fun ls hl => ?_)
  exact L4 9 ls f s.heap [] 0 0 (by decide) (lv_cons hl 2 rfl (lv_cons hl 3 rfl (lv_cons hl 1 rfl (lv_cons hl 0 rfl (lv_nil hl))))) h t o ⟨by decide, by decide⟩ ⟨by decide, by decide⟩
abbrev rm_s_X6_driftd1 : Room := { frames := 0, cells := 0, slots := 0, locals := 0 }
set_option maxRecDepth 100000 in
set_option maxHeartbeats 4000000 in
theorem s_X6_driftd1 (l : Launch) (D : va_G) (G : Nat → Nat) (b0 : Nat) (τ : Nat → Nat) (f : hM) (t : TI G 9 τ f) (u0 : Nat) (hu0 : τ u0 = 1) : mI l yX6_drift cX6_drift 4 (.int) rm_s_X6_driftd1 D G b0 f [.ref u0, .ref (G (60 + 1))] (fun r f1 => iv r (-2147483648) 2147483647 ∧ TI G 9 τ f1 ∧ Fr [] τ f f1) := by
  refine met2 (own := RX6) (by decide) rfl (Nat.le_of_ble_eq_true rfl) ?_
  intro p e s m args below meth c ls Q hQ C hr hini hl h
  have hl : lv_has ls 4 [(0, .ref u0), (1, .ref (G (60 + 1)))] := hl
  obtain ⟨hx, hb, hml, hown, hts, hE0, hlk⟩ := id C
  have o := Fr.rf [] τ f
  have L4 : ∀ (n4 : Nat) (ls : Array Slot) (f_4 : hM) (H : Heap) (locs : List Loc) (v4_2 : Int32) (v4_3 : Int32), 8 - v4_3.toInt < (n4 : Int) → lv_has ls 4 [(0, .ref u0), (1, .ref (G (60 + 1))), (2, .int v4_2), (3, .int v4_3)] → hw D b0 s.heap f_4 H locs → TI G 9 τ f_4 → Fr [] τ f f_4 → iv v4_2 (-2147483648) 2147483647 → iv v4_3 0 8 → W p l e rm_s_X6_driftd1 s m args below meth c H locs 0 0 Q (F0 m 4 ls []) := by
    intro n4
    induction n4 with
    | zero => intro ls f_4 H locs v4_2 v4_3 hm4 hl h t_4 o_4 iv4_2 iv4_3; exact absurd hm4 (by omega)
    | succ n4 ih4 =>
      intro ls f_4 H locs v4_2 v4_3 hm4 hl h t_4 o_4 iv4_2 iv4_3
      refine lv_iload_n hx hb dX6_drift_4 rfl (lv_at hl 3 rfl) ?_
      refine lv_bipush (v := 8) hx hb dX6_drift_5 (by decide) ?_
      refine lv_icmp_ge (tgt := 35) hx hb dX6_drift_7 (by decide) (fun c1 => ?_) (fun c1 => ?_)
      · have c2 : 8 ≤ v4_3.toInt := Int32.le_iff_toInt_le.mp c1
        have i3 : iv v4_3 8 8 := iv_Er c2 (iv_k (x := 8) (k := 8) rfl) iv4_3 (by decide)
        refine lv_iload_n hx hb dX6_drift_35 rfl (lv_at hl 2 rfl) ?_
        exact u_iret C h hr hQ (⟨iv4_2, t_4, o_4⟩) (Nat.le_of_ble_eq_true rfl) (Nat.le_of_ble_eq_true rfl) dX6_drift_36
      · have c4 : v4_3.toInt < 8 := Int32.lt_iff_toInt_lt.mp (iv_nle c1)
        have i5 : iv v4_3 0 7 := iv_Ll c4 iv4_3 (iv_k (x := 8) (k := 8) rfl) (by decide)
        refine lv_iload_n hx hb dX6_drift_10 rfl (lv_at hl 3 rfl) ?_
        refine lv_aload_n hx hb dX6_drift_11 rfl (lv_at hl 1 rfl) ?_
        refine st_len C h (k := 1) (by decide) dX6_drift_12 ?_
        refine lv_icmp_ge (tgt := 35) hx hb dX6_drift_13 (by decide) (fun c6 => ?_) (fun c6 => ?_)
        · have c7 : 8 ≤ v4_3.toInt := Int32.le_iff_toInt_le.mp c6
          exact (iv_ce_ c7 (iv_k (x := 8) (k := 8) rfl) i5 (by decide)).elim
        · have c8 : v4_3.toInt < 8 := Int32.lt_iff_toInt_lt.mp (iv_nle c6)
          refine lv_iload_n hx hb dX6_drift_16 rfl (lv_at hl 2 rfl) ?_
          refine lv_aload_n hx hb dX6_drift_17 rfl (lv_at hl 0 rfl) ?_
          refine t_getr (tq := 2) C h t_4 hu0 (by decide) wf_1 rfl fl_X6_15 dX6_drift_18 (fun q9 tq9 => ?_)
          refine lv_iload_n hx hb dX6_drift_21 rfl (lv_at hl 3 rfl) ?_
          refine t_iald C h t_4 tq9 (by decide) wf_2 (iv_in i5 (by decide)) dX6_drift_22 (fun z10 iz10 => ?_)
          refine lv_aload_n hx hb dX6_drift_23 rfl (lv_at hl 1 rfl) ?_
          refine lv_iload_n hx hb dX6_drift_24 rfl (lv_at hl 3 rfl) ?_
          refine st_ald C h (k := 1) (by decide) st_b1 (iv_in i5 (by decide)) dX6_drift_25 (fun z11 ez11 iz11 => ?_)
          refine i_muls (k1 := 9) (k2 := 1) hx hb dX6_drift_26 (iv_w iz10 (by decide)) (iv_w iz11 (by decide)) (lo := (-9)) (hi := 9) (by decide) (fun z12 ez12 iz12 => ?_)
          refine lv_iadd hx hb dX6_drift_27 (i_top (iv_any _) (fun z13 ez13 iz13 => ?_))
          refine lv_istore_n (lv' := [(2, .int z13), (0, .ref u0), (1, .ref (G (60 + 1))), (3, .int v4_3)]) hx hb dX6_drift_28 rfl hl (by decide) rfl (fun ls hl => ?_)
          refine i_inc hx hb dX6_drift_29 hl (k := 3) rfl i5 rfl (lo := 1) (hi := 8) (by decide) (by decide) (lv' := fun v => [(3, .int v), (2, .int z13), (0, .ref u0), (1, .ref (G (60 + 1)))]) (fun _ => rfl) (fun z14 ls ez14 mz14 iz14 hl => ?_)
          refine lv_goto (tgt := 4) hx hb dX6_drift_32 (by decide) ?_
          exact ih4 ls f_4 H locs z13 z14 (show 8 - z14.toInt < _ by omega) (lv_cons hl 2 rfl (lv_cons hl 3 rfl (lv_cons hl 1 rfl (lv_cons hl 0 rfl (lv_nil hl))))) h t_4 o_4 iz13 (iv_w iz14 (by decide))
  refine lv_iconst (v := 0) hx hb dX6_drift_0 (by decide) ?_
  refine lv_istore_n (lv' := [(2, .int 0), (0, .ref u0), (1, .ref (G (60 + 1)))]) hx hb dX6_drift_1 rfl hl (by decide) rfl (fun ls hl => ?_)
  refine lv_iconst (v := 0) hx hb dX6_drift_2 (by decide) ?_
  refine lv_istore_n (lv' := [(3, .int 0), (2, .int 0), (0, .ref u0), (1, .ref (G (60 + 1)))]) hx hb dX6_drift_3 rfl hl (by decide) rfl (fun ls hl => ?_)
  exact L4 9 ls f s.heap [] 0 0 (by decide) (lv_cons hl 2 rfl (lv_cons hl 3 rfl (lv_cons hl 1 rfl (lv_cons hl 0 rfl (lv_nil hl))))) h t o ⟨by decide, by decide⟩ ⟨by decide, by decide⟩
abbrev rm_s_X6_isSameByd4 : Room := { frames := 0, cells := 0, slots := 0, locals := 0 }
set_option maxRecDepth 100000 in
set_option maxHeartbeats 4000000 in
theorem s_X6_isSameByd4 (l : Launch) (D : va_G) (G : Nat → Nat) (b0 : Nat) (τ : Nat → Nat) (f : hM) (t : TI G 9 τ f) (u0 : Nat) (hu0 : τ u0 = 1) : mI l yX6_isSameBy cX6_isSameBy 3 (.boolean) rm_s_X6_isSameByd4 D G b0 f [.ref u0, .ref (G (60 + 4))] (fun r f1 => iv r 0 1 ∧ TI G 9 τ f1 ∧ Fr [] τ f f1) := by
  refine met2 (own := RX6) (by decide) rfl (Nat.le_of_ble_eq_true rfl) ?_
  intro p e s m args below meth c ls Q hQ C hr hini hl h
  have hl : lv_has ls 3 [(0, .ref u0), (1, .ref (G (60 + 4)))] := hl
  obtain ⟨hx, hb, hml, hown, hts, hE0, hlk⟩ := id C
  have o := Fr.rf [] τ f
  have L2 : ∀ (n2 : Nat) (ls : Array Slot) (f_2 : hM) (H : Heap) (locs : List Loc) (v2_2 : Int32), 8 - v2_2.toInt < (n2 : Int) → lv_has ls 3 [(0, .ref u0), (1, .ref (G (60 + 4))), (2, .int v2_2)] → hw D b0 s.heap f_2 H locs → TI G 9 τ f_2 → Fr [] τ f f_2 → iv v2_2 0 8 → W p l e rm_s_X6_isSameByd4 s m args below meth c H locs 0 0 Q (F0 m 2 ls []) := by
    intro n2
    induction n2 with
    | zero => intro ls f_2 H locs v2_2 hm2 hl h t_2 o_2 iv2_2; exact absurd hm2 (by omega)
    | succ n2 ih2 =>
      intro ls f_2 H locs v2_2 hm2 hl h t_2 o_2 iv2_2
      refine lv_iload_n hx hb dX6_isSameBy_2 rfl (lv_at hl 2 rfl) ?_
      refine lv_bipush (v := 8) hx hb dX6_isSameBy_3 (by decide) ?_
      refine lv_icmp_ge (tgt := 33) hx hb dX6_isSameBy_5 (by decide) (fun c1 => ?_) (fun c1 => ?_)
      · have c2 : 8 ≤ v2_2.toInt := Int32.le_iff_toInt_le.mp c1
        have i3 : iv v2_2 8 8 := iv_Er c2 (iv_k (x := 8) (k := 8) rfl) iv2_2 (by decide)
        refine lv_iconst (v := 1) hx hb dX6_isSameBy_33 (by decide) ?_
        exact u_zret C h hr hQ ⟨by decide, by decide⟩ (⟨⟨by decide, by decide⟩, t_2, o_2⟩) (Nat.le_of_ble_eq_true rfl) (Nat.le_of_ble_eq_true rfl) dX6_isSameBy_34
      · have c4 : v2_2.toInt < 8 := Int32.lt_iff_toInt_lt.mp (iv_nle c1)
        have i5 : iv v2_2 0 7 := iv_Ll c4 iv2_2 (iv_k (x := 8) (k := 8) rfl) (by decide)
        refine lv_aload_n hx hb dX6_isSameBy_8 rfl (lv_at hl 0 rfl) ?_
        refine t_getr (tq := 2) C h t_2 hu0 (by decide) wf_1 rfl fl_X6_15 dX6_isSameBy_9 (fun q6 tq6 => ?_)
        refine lv_iload_n hx hb dX6_isSameBy_12 rfl (lv_at hl 2 rfl) ?_
        refine t_iald C h t_2 tq6 (by decide) wf_2 (iv_in i5 (by decide)) dX6_isSameBy_13 (fun z7 iz7 => ?_)
        refine lv_aload_n hx hb dX6_isSameBy_14 rfl (lv_at hl 0 rfl) ?_
        refine t_getr (tq := 2) C h t_2 hu0 (by decide) wf_1 rfl fl_X6_15 dX6_isSameBy_15 (fun q8 tq8 => ?_)
        refine lv_aload_n hx hb dX6_isSameBy_18 rfl (lv_at hl 1 rfl) ?_
        refine lv_iload_n hx hb dX6_isSameBy_19 rfl (lv_at hl 2 rfl) ?_
        refine st_ald C h (k := 4) (by decide) st_b4 (iv_in i5 (by decide)) dX6_isSameBy_20 (fun z9 ez9 iz9 => ?_)
        refine t_iald C h t_2 tq8 (by decide) wf_2 (iv_in iz9 (by decide)) dX6_isSameBy_21 (fun z10 iz10 => ?_)
        refine lv_icmp_eq (tgt := 27) hx hb dX6_isSameBy_22 (by decide) (fun c11 => ?_) (fun c11 => ?_)
        · have c12 : z7.toInt = z10.toInt := congrArg Int32.toInt c11
          refine i_inc hx hb dX6_isSameBy_27 hl (k := 2) rfl i5 rfl (lo := 1) (hi := 8) (by decide) (by decide) (lv' := fun v => [(2, .int v), (0, .ref u0), (1, .ref (G (60 + 4)))]) (fun _ => rfl) (fun z14 ls ez14 mz14 iz14 hl => ?_)
          refine lv_goto (tgt := 2) hx hb dX6_isSameBy_30 (by decide) ?_
          exact ih2 ls f_2 H locs z14 (show 8 - z14.toInt < _ by omega) (lv_cons hl 1 rfl (lv_cons hl 2 rfl (lv_cons hl 0 rfl (lv_nil hl)))) h t_2 o_2 (iv_w iz14 (by decide))
        · have c13 : z7.toInt ≠ z10.toInt := fun z_ => c11 (Int32.toInt_inj.mp z_)
          refine lv_iconst (v := 0) hx hb dX6_isSameBy_25 (by decide) ?_
          exact u_zret C h hr hQ ⟨by decide, by decide⟩ (⟨⟨by decide, by decide⟩, t_2, o_2⟩) (Nat.le_of_ble_eq_true rfl) (Nat.le_of_ble_eq_true rfl) dX6_isSameBy_26
  refine lv_iconst (v := 0) hx hb dX6_isSameBy_0 (by decide) ?_
  refine lv_istore_n (lv' := [(2, .int 0), (0, .ref u0), (1, .ref (G (60 + 4)))]) hx hb dX6_isSameBy_1 rfl hl (by decide) rfl (fun ls hl => ?_)
  exact L2 9 ls f s.heap [] 0 (by decide) (lv_cons hl 1 rfl (lv_cons hl 2 rfl (lv_cons hl 0 rfl (lv_nil hl)))) h t o ⟨by decide, by decide⟩
abbrev rm_s_X6_isSameByd5 : Room := { frames := 0, cells := 0, slots := 0, locals := 0 }
set_option maxRecDepth 100000 in
set_option maxHeartbeats 4000000 in
theorem s_X6_isSameByd5 (l : Launch) (D : va_G) (G : Nat → Nat) (b0 : Nat) (τ : Nat → Nat) (f : hM) (t : TI G 9 τ f) (u0 : Nat) (hu0 : τ u0 = 1) : mI l yX6_isSameBy cX6_isSameBy 3 (.boolean) rm_s_X6_isSameByd5 D G b0 f [.ref u0, .ref (G (60 + 5))] (fun r f1 => iv r 0 1 ∧ TI G 9 τ f1 ∧ Fr [] τ f f1) := by
  refine met2 (own := RX6) (by decide) rfl (Nat.le_of_ble_eq_true rfl) ?_
  intro p e s m args below meth c ls Q hQ C hr hini hl h
  have hl : lv_has ls 3 [(0, .ref u0), (1, .ref (G (60 + 5)))] := hl
  obtain ⟨hx, hb, hml, hown, hts, hE0, hlk⟩ := id C
  have o := Fr.rf [] τ f
  have L2 : ∀ (n2 : Nat) (ls : Array Slot) (f_2 : hM) (H : Heap) (locs : List Loc) (v2_2 : Int32), 8 - v2_2.toInt < (n2 : Int) → lv_has ls 3 [(0, .ref u0), (1, .ref (G (60 + 5))), (2, .int v2_2)] → hw D b0 s.heap f_2 H locs → TI G 9 τ f_2 → Fr [] τ f f_2 → iv v2_2 0 8 → W p l e rm_s_X6_isSameByd5 s m args below meth c H locs 0 0 Q (F0 m 2 ls []) := by
    intro n2
    induction n2 with
    | zero => intro ls f_2 H locs v2_2 hm2 hl h t_2 o_2 iv2_2; exact absurd hm2 (by omega)
    | succ n2 ih2 =>
      intro ls f_2 H locs v2_2 hm2 hl h t_2 o_2 iv2_2
      refine lv_iload_n hx hb dX6_isSameBy_2 rfl (lv_at hl 2 rfl) ?_
      refine lv_bipush (v := 8) hx hb dX6_isSameBy_3 (by decide) ?_
      refine lv_icmp_ge (tgt := 33) hx hb dX6_isSameBy_5 (by decide) (fun c1 => ?_) (fun c1 => ?_)
      · have c2 : 8 ≤ v2_2.toInt := Int32.le_iff_toInt_le.mp c1
        have i3 : iv v2_2 8 8 := iv_Er c2 (iv_k (x := 8) (k := 8) rfl) iv2_2 (by decide)
        refine lv_iconst (v := 1) hx hb dX6_isSameBy_33 (by decide) ?_
        exact u_zret C h hr hQ ⟨by decide, by decide⟩ (⟨⟨by decide, by decide⟩, t_2, o_2⟩) (Nat.le_of_ble_eq_true rfl) (Nat.le_of_ble_eq_true rfl) dX6_isSameBy_34
      · have c4 : v2_2.toInt < 8 := Int32.lt_iff_toInt_lt.mp (iv_nle c1)
        have i5 : iv v2_2 0 7 := iv_Ll c4 iv2_2 (iv_k (x := 8) (k := 8) rfl) (by decide)
        refine lv_aload_n hx hb dX6_isSameBy_8 rfl (lv_at hl 0 rfl) ?_
        refine t_getr (tq := 2) C h t_2 hu0 (by decide) wf_1 rfl fl_X6_15 dX6_isSameBy_9 (fun q6 tq6 => ?_)
        refine lv_iload_n hx hb dX6_isSameBy_12 rfl (lv_at hl 2 rfl) ?_
        refine t_iald C h t_2 tq6 (by decide) wf_2 (iv_in i5 (by decide)) dX6_isSameBy_13 (fun z7 iz7 => ?_)
        refine lv_aload_n hx hb dX6_isSameBy_14 rfl (lv_at hl 0 rfl) ?_
        refine t_getr (tq := 2) C h t_2 hu0 (by decide) wf_1 rfl fl_X6_15 dX6_isSameBy_15 (fun q8 tq8 => ?_)
        refine lv_aload_n hx hb dX6_isSameBy_18 rfl (lv_at hl 1 rfl) ?_
        refine lv_iload_n hx hb dX6_isSameBy_19 rfl (lv_at hl 2 rfl) ?_
        refine st_ald C h (k := 5) (by decide) st_b5 (iv_in i5 (by decide)) dX6_isSameBy_20 (fun z9 ez9 iz9 => ?_)
        refine t_iald C h t_2 tq8 (by decide) wf_2 (iv_in iz9 (by decide)) dX6_isSameBy_21 (fun z10 iz10 => ?_)
        refine lv_icmp_eq (tgt := 27) hx hb dX6_isSameBy_22 (by decide) (fun c11 => ?_) (fun c11 => ?_)
        · have c12 : z7.toInt = z10.toInt := congrArg Int32.toInt c11
          refine i_inc hx hb dX6_isSameBy_27 hl (k := 2) rfl i5 rfl (lo := 1) (hi := 8) (by decide) (by decide) (lv' := fun v => [(2, .int v), (0, .ref u0), (1, .ref (G (60 + 5)))]) (fun _ => rfl) (fun z14 ls ez14 mz14 iz14 hl => ?_)
          refine lv_goto (tgt := 2) hx hb dX6_isSameBy_30 (by decide) ?_
          exact ih2 ls f_2 H locs z14 (show 8 - z14.toInt < _ by omega) (lv_cons hl 1 rfl (lv_cons hl 2 rfl (lv_cons hl 0 rfl (lv_nil hl)))) h t_2 o_2 (iv_w iz14 (by decide))
        · have c13 : z7.toInt ≠ z10.toInt := fun z_ => c11 (Int32.toInt_inj.mp z_)
          refine lv_iconst (v := 0) hx hb dX6_isSameBy_25 (by decide) ?_
          exact u_zret C h hr hQ ⟨by decide, by decide⟩ (⟨⟨by decide, by decide⟩, t_2, o_2⟩) (Nat.le_of_ble_eq_true rfl) (Nat.le_of_ble_eq_true rfl) dX6_isSameBy_26
  refine lv_iconst (v := 0) hx hb dX6_isSameBy_0 (by decide) ?_
  refine lv_istore_n (lv' := [(2, .int 0), (0, .ref u0), (1, .ref (G (60 + 5)))]) hx hb dX6_isSameBy_1 rfl hl (by decide) rfl (fun ls hl => ?_)
  exact L2 9 ls f s.heap [] 0 (by decide) (lv_cons hl 1 rfl (lv_cons hl 2 rfl (lv_cons hl 0 rfl (lv_nil hl)))) h t o ⟨by decide, by decide⟩
abbrev rm_s_X6_isSameAs : Room := { frames := 0, cells := 0, slots := 0, locals := 0 }
set_option maxRecDepth 100000 in
set_option maxHeartbeats 4000000 in
theorem s_X6_isSameAs (l : Launch) (D : va_G) (G : Nat → Nat) (b0 : Nat) (τ : Nat → Nat) (f : hM) (t : TI G 9 τ f) (u0 : Nat) (hu0 : τ u0 = 1) (u1 : Nat) (hu1 : τ u1 = 1) : mI l yX6_isSameAs cX6_isSameAs 3 (.boolean) rm_s_X6_isSameAs D G b0 f [.ref u0, .ref u1] (fun r f1 => iv r 0 1 ∧ TI G 9 τ f1 ∧ Fr [] τ f f1) := by
  refine met2 (own := RX6) (by decide) rfl (Nat.le_of_ble_eq_true rfl) ?_
  intro p e s m args below meth c ls Q hQ C hr hini hl h
  have hl : lv_has ls 3 [(0, .ref u0), (1, .ref u1)] := hl
  obtain ⟨hx, hb, hml, hown, hts, hE0, hlk⟩ := id C
  have o := Fr.rf [] τ f
  have L2 : ∀ (n2 : Nat) (ls : Array Slot) (f_2 : hM) (H : Heap) (locs : List Loc) (v2_2 : Int32), 8 - v2_2.toInt < (n2 : Int) → lv_has ls 3 [(0, .ref u0), (1, .ref u1), (2, .int v2_2)] → hw D b0 s.heap f_2 H locs → TI G 9 τ f_2 → Fr [] τ f f_2 → iv v2_2 0 8 → W p l e rm_s_X6_isSameAs s m args below meth c H locs 0 0 Q (F0 m 2 ls []) := by
    intro n2
    induction n2 with
    | zero => intro ls f_2 H locs v2_2 hm2 hl h t_2 o_2 iv2_2; exact absurd hm2 (by omega)
    | succ n2 ih2 =>
      intro ls f_2 H locs v2_2 hm2 hl h t_2 o_2 iv2_2
      refine lv_iload_n hx hb dX6_isSameAs_2 rfl (lv_at hl 2 rfl) ?_
      refine lv_bipush (v := 8) hx hb dX6_isSameAs_3 (by decide) ?_
      refine lv_icmp_ge (tgt := 31) hx hb dX6_isSameAs_5 (by decide) (fun c1 => ?_) (fun c1 => ?_)
      · have c2 : 8 ≤ v2_2.toInt := Int32.le_iff_toInt_le.mp c1
        have i3 : iv v2_2 8 8 := iv_Er c2 (iv_k (x := 8) (k := 8) rfl) iv2_2 (by decide)
        refine lv_aload_n hx hb dX6_isSameAs_31 rfl (lv_at hl 0 rfl) ?_
        refine t_geti C h t_2 hu0 (by decide) wf_1 rfl fl_X6_21 dX6_isSameAs_32 (fun z6 iz6 => ?_)
        refine lv_aload_n hx hb dX6_isSameAs_35 rfl (lv_at hl 1 rfl) ?_
        refine t_geti C h t_2 hu1 (by decide) wf_1 rfl fl_X6_21 dX6_isSameAs_36 (fun z7 iz7 => ?_)
        refine lv_icmp_ne (tgt := 57) hx hb dX6_isSameAs_39 (by decide) (fun c8 => ?_) (fun c8 => ?_)
        · have c9 : z6.toInt ≠ z7.toInt := fun z_ => c8 (Int32.toInt_inj.mp z_)
          refine lv_iconst (v := 0) hx hb dX6_isSameAs_57 (by decide) ?_
          exact u_zret C h hr hQ ⟨by decide, by decide⟩ (⟨⟨by decide, by decide⟩, t_2, o_2⟩) (Nat.le_of_ble_eq_true rfl) (Nat.le_of_ble_eq_true rfl) dX6_isSameAs_58
        · have c10 : z6.toInt = z7.toInt := congrArg Int32.toInt c8
          refine lv_aload_n hx hb dX6_isSameAs_42 rfl (lv_at hl 0 rfl) ?_
          refine t_geti C h t_2 hu0 (by decide) wf_1 rfl fl_X6_25 dX6_isSameAs_43 (fun z11 iz11 => ?_)
          refine lv_aload_n hx hb dX6_isSameAs_46 rfl (lv_at hl 1 rfl) ?_
          refine t_geti C h t_2 hu1 (by decide) wf_1 rfl fl_X6_25 dX6_isSameAs_47 (fun z12 iz12 => ?_)
          refine lv_icmp_ne (tgt := 57) hx hb dX6_isSameAs_50 (by decide) (fun c13 => ?_) (fun c13 => ?_)
          · have c14 : z11.toInt ≠ z12.toInt := fun z_ => c13 (Int32.toInt_inj.mp z_)
            refine lv_iconst (v := 0) hx hb dX6_isSameAs_57 (by decide) ?_
            exact u_zret C h hr hQ ⟨by decide, by decide⟩ (⟨⟨by decide, by decide⟩, t_2, o_2⟩) (Nat.le_of_ble_eq_true rfl) (Nat.le_of_ble_eq_true rfl) dX6_isSameAs_58
          · have c15 : z11.toInt = z12.toInt := congrArg Int32.toInt c13
            refine lv_iconst (v := 1) hx hb dX6_isSameAs_53 (by decide) ?_
            refine lv_goto (tgt := 58) hx hb dX6_isSameAs_54 (by decide) ?_
            exact u_zret C h hr hQ ⟨by decide, by decide⟩ (⟨⟨by decide, by decide⟩, t_2, o_2⟩) (Nat.le_of_ble_eq_true rfl) (Nat.le_of_ble_eq_true rfl) dX6_isSameAs_58
      · have c4 : v2_2.toInt < 8 := Int32.lt_iff_toInt_lt.mp (iv_nle c1)
        have i5 : iv v2_2 0 7 := iv_Ll c4 iv2_2 (iv_k (x := 8) (k := 8) rfl) (by decide)
        refine lv_aload_n hx hb dX6_isSameAs_8 rfl (lv_at hl 0 rfl) ?_
        refine t_getr (tq := 2) C h t_2 hu0 (by decide) wf_1 rfl fl_X6_15 dX6_isSameAs_9 (fun q16 tq16 => ?_)
        refine lv_iload_n hx hb dX6_isSameAs_12 rfl (lv_at hl 2 rfl) ?_
        refine t_iald C h t_2 tq16 (by decide) wf_2 (iv_in i5 (by decide)) dX6_isSameAs_13 (fun z17 iz17 => ?_)
        refine lv_aload_n hx hb dX6_isSameAs_14 rfl (lv_at hl 1 rfl) ?_
        refine t_getr (tq := 2) C h t_2 hu1 (by decide) wf_1 rfl fl_X6_15 dX6_isSameAs_15 (fun q18 tq18 => ?_)
        refine lv_iload_n hx hb dX6_isSameAs_18 rfl (lv_at hl 2 rfl) ?_
        refine t_iald C h t_2 tq18 (by decide) wf_2 (iv_in i5 (by decide)) dX6_isSameAs_19 (fun z19 iz19 => ?_)
        refine lv_icmp_eq (tgt := 25) hx hb dX6_isSameAs_20 (by decide) (fun c20 => ?_) (fun c20 => ?_)
        · have c21 : z17.toInt = z19.toInt := congrArg Int32.toInt c20
          refine i_inc hx hb dX6_isSameAs_25 hl (k := 2) rfl i5 rfl (lo := 1) (hi := 8) (by decide) (by decide) (lv' := fun v => [(2, .int v), (0, .ref u0), (1, .ref u1)]) (fun _ => rfl) (fun z23 ls ez23 mz23 iz23 hl => ?_)
          refine lv_goto (tgt := 2) hx hb dX6_isSameAs_28 (by decide) ?_
          exact ih2 ls f_2 H locs z23 (show 8 - z23.toInt < _ by omega) (lv_cons hl 1 rfl (lv_cons hl 2 rfl (lv_cons hl 0 rfl (lv_nil hl)))) h t_2 o_2 (iv_w iz23 (by decide))
        · have c22 : z17.toInt ≠ z19.toInt := fun z_ => c20 (Int32.toInt_inj.mp z_)
          refine lv_iconst (v := 0) hx hb dX6_isSameAs_23 (by decide) ?_
          exact u_zret C h hr hQ ⟨by decide, by decide⟩ (⟨⟨by decide, by decide⟩, t_2, o_2⟩) (Nat.le_of_ble_eq_true rfl) (Nat.le_of_ble_eq_true rfl) dX6_isSameAs_24
  refine lv_iconst (v := 0) hx hb dX6_isSameAs_0 (by decide) ?_
  refine lv_istore_n (lv' := [(2, .int 0), (0, .ref u0), (1, .ref u1)]) hx hb dX6_isSameAs_1 rfl hl (by decide) rfl (fun ls hl => ?_)
  exact L2 9 ls f s.heap [] 0 (by decide) (lv_cons hl 1 rfl (lv_cons hl 2 rfl (lv_cons hl 0 rfl (lv_nil hl)))) h t o ⟨by decide, by decide⟩
abbrev rm_s_X0_size : Room := { frames := 0, cells := 0, slots := 0, locals := 0 }
set_option maxRecDepth 100000 in
set_option maxHeartbeats 4000000 in
theorem s_X0_size (l : Launch) (D : va_G) (G : Nat → Nat) (b0 : Nat) (τ : Nat → Nat) (f : hM) (t : TI G 9 τ f) (u0 : Nat) (hu0 : τ u0 = 12) : mI l yX0_size cX0_size 1 (.int) rm_s_X0_size D G b0 f [.ref u0] (fun r f1 => iv r 0 8 ∧ TI G 9 τ f1 ∧ Fr [] τ f f1) := by
  refine met2 (own := RX0) (by decide) rfl (Nat.le_of_ble_eq_true rfl) ?_
  intro p e s m args below meth c ls Q hQ C hr hini hl h
  have hl : lv_has ls 1 [(0, .ref u0)] := hl
  obtain ⟨hx, hb, hml, hown, hts, hE0, hlk⟩ := id C
  have o := Fr.rf [] τ f
  refine lv_aload_n hx hb dX0_size_0 rfl (lv_at hl 0 rfl) ?_
  refine t_getr (tq := 15) C h t hu0 (by decide) wf_12 rfl fl_X0_12 dX0_size_1 (fun q1 tq1 => ?_)
  refine t_geti C h t tq1 (by decide) wf_15 rfl fl_X0_25 dX0_size_4 (fun z2 iz2 => ?_)
  exact u_iret C h hr hQ (⟨iz2, t, o⟩) (Nat.le_of_ble_eq_true rfl) (Nat.le_of_ble_eq_true rfl) dX0_size_7
abbrev rm_s_X0_isFull : Room := { frames := 0, cells := 0, slots := 0, locals := 0 }
set_option maxRecDepth 100000 in
set_option maxHeartbeats 4000000 in
theorem s_X0_isFull (l : Launch) (D : va_G) (G : Nat → Nat) (b0 : Nat) (τ : Nat → Nat) (f : hM) (t : TI G 9 τ f) (u0 : Nat) (hu0 : τ u0 = 12) : mI l yX0_isFull cX0_isFull 1 (.boolean) rm_s_X0_isFull D G b0 f [.ref u0] (fun r f1 => iv r 0 1 ∧ TI G 9 τ f1 ∧ Fr [] τ f f1) := by
  refine met2 (own := RX0) (by decide) rfl (Nat.le_of_ble_eq_true rfl) ?_
  intro p e s m args below meth c ls Q hQ C hr hini hl h
  have hl : lv_has ls 1 [(0, .ref u0)] := hl
  obtain ⟨hx, hb, hml, hown, hts, hE0, hlk⟩ := id C
  have o := Fr.rf [] τ f
  refine lv_aload_n hx hb dX0_isFull_0 rfl (lv_at hl 0 rfl) ?_
  refine t_getr (tq := 15) C h t hu0 (by decide) wf_12 rfl fl_X0_12 dX0_isFull_1 (fun q1 tq1 => ?_)
  refine t_geti C h t tq1 (by decide) wf_15 rfl fl_X0_25 dX0_isFull_4 (fun z2 iz2 => ?_)
  refine lv_bipush (v := 8) hx hb dX0_isFull_7 (by decide) ?_
  refine lv_icmp_lt (tgt := 16) hx hb dX0_isFull_9 (by decide) (fun c3 => ?_) (fun c3 => ?_)
  · have c4 : z2.toInt < 8 := Int32.lt_iff_toInt_lt.mp c3
    have i5 : iv z2 0 7 := iv_Ll c4 iz2 (iv_k (x := 8) (k := 8) rfl) (by decide)
    refine lv_iconst (v := 0) hx hb dX0_isFull_16 (by decide) ?_
    exact u_zret C h hr hQ ⟨by decide, by decide⟩ (⟨⟨by decide, by decide⟩, t, o⟩) (Nat.le_of_ble_eq_true rfl) (Nat.le_of_ble_eq_true rfl) dX0_isFull_17
  · have c6 : 8 ≤ z2.toInt := Int32.le_iff_toInt_le.mp (iv_nlt c3)
    have i7 : iv z2 8 8 := iv_Er c6 (iv_k (x := 8) (k := 8) rfl) iz2 (by decide)
    refine lv_iconst (v := 1) hx hb dX0_isFull_12 (by decide) ?_
    refine lv_goto (tgt := 17) hx hb dX0_isFull_13 (by decide) ?_
    exact u_zret C h hr hQ ⟨by decide, by decide⟩ (⟨⟨by decide, by decide⟩, t, o⟩) (Nat.le_of_ble_eq_true rfl) (Nat.le_of_ble_eq_true rfl) dX0_isFull_17
abbrev rm_s_X0_find : Room := { frames := 1, cells := 0, slots := 0, locals := 22 }
set_option maxRecDepth 100000 in
set_option maxHeartbeats 4000000 in
theorem s_X0_find (l : Launch) (D : va_G) (G : Nat → Nat) (b0 : Nat) (τ : Nat → Nat) (f : hM) (t : TI G 9 τ f) (u0 : Nat) (hu0 : τ u0 = 12) (u1 : Int32) (hu1 : iv u1 (-2147483648) 2147483647) : mQ l yX0_find cX0_find 2 (.object "QuarterWalks$StepSet") rm_s_X0_find D G b0 f [.ref u0, .int u1] (fun r f1 => (∀ z, r = some z → τ z = 1) ∧ TI G 9 τ f1 ∧ Fr [] τ f f1) := by
  refine met2 (own := RX0) (by decide) rfl (Nat.le_of_ble_eq_true rfl) ?_
  intro p e s m args below meth c ls Q hQ C hr hini hl h
  have hl : lv_has ls 2 [(0, .ref u0), (1, .int u1)] := hl
  obtain ⟨hx, hb, hml, hown, hts, hE0, hlk⟩ := id C
  have o := Fr.rf [] τ f
  refine lv_iload_n hx hb dX0_find_0 rfl (lv_at hl 1 rfl) ?_
  refine lv_iconst (v := 0) hx hb dX0_find_1 (by decide) ?_
  refine lv_aload_n hx hb dX0_find_2 rfl (lv_at hl 0 rfl) ?_
  refine t_getr (tq := 15) C h t hu0 (by decide) wf_12 rfl fl_X0_12 dX0_find_3 (fun q1 tq1 => ?_)
  refine t_geti C h t tq1 (by decide) wf_15 rfl fl_X0_25 dX0_find_6 (fun z2 iz2 => ?_)
  refine lv_iconst (v := 1) hx hb dX0_find_9 (by decide) ?_
  refine i_subk hx hb dX0_find_10 iz2 (k := 1) rfl (lo := (-1)) (hi := 7) (by decide) (fun z3 ez3 mz3 iz3 => ?_)
  refine k_i (r_SN C h hl (host := "QuarterWalks") (As := [.int u1, .int 0, .int z3]) (rest := []) (s_X10_within l D G b0 τ f t u1 hu1 0 (iv_w (iv_k (x := 0) (k := 0) rfl) (by decide)) z3 (iv_w iz3 (by decide))) mk_X10_within (by decide) w_426 w_427 ⟨Nat.le_of_ble_eq_true rfl, Nat.le_of_ble_eq_true rfl⟩ rfl (Nat.le_of_ble_eq_true rfl) ⟨Nat.le_of_ble_eq_true rfl, Nat.le_of_ble_eq_true rfl⟩ rfl dX0_find_11) h (fun r4 f5 H locs p6 h => ?_)
  have n7 : (0 : Int32).toInt = 0 := rfl
  obtain ⟨ir4, tf5, ogf5, cnr4, czr4⟩ := p6
  have egf5 := Fr.nil2 ogf5
  subst egf5
  refine lv_if_eq (tgt := 29) hx hb dX0_find_14 (by decide) (fun c8 => ?_) (fun c8 => ?_)
  · have c9 : r4.toInt = 0 := congrArg Int32.toInt c8
    have i10 : iv r4 0 0 := iv_Q c9 ir4 (iv_k (x := 0) (k := 0) rfl) (by decide)
    have i11 := czr4 c9
    refine lv_null hx hb dX0_find_29 ?_
    exact u_aret C h hr (Or.inl ⟨_, rfl⟩) hQ (v := none) (⟨(fun z_ h_ => by cases h_), t, o⟩) (Nat.le_of_ble_eq_true rfl) (Nat.le_of_ble_eq_true rfl) rfl dX0_find_30
  · have c12 : r4.toInt ≠ 0 := fun z_ => c8 (Int32.toInt_inj.mp z_)
    have i13 : iv r4 1 1 := iv_Nl c12 ir4 (by decide)
    obtain ⟨i14, i15⟩ := cnr4 c12
    have i16 : iv u1 0 7 := ⟨by omega, by omega⟩
    refine lv_aload_n hx hb dX0_find_17 rfl (lv_at hl 0 rfl) ?_
    refine t_getr (tq := 15) C h t hu0 (by decide) wf_12 rfl fl_X0_12 dX0_find_18 (fun q17 tq17 => ?_)
    refine t_getr (tq := 4) C h t tq17 (by decide) wf_15 rfl fl_X0_33 dX0_find_21 (fun q18 tq18 => ?_)
    refine lv_iload_n hx hb dX0_find_24 rfl (lv_at hl 1 rfl) ?_
    refine t_aaldO C h t (g := 4) rfl tq18 (by decide) wf_4 (iv_in i16 (by decide)) dX0_find_25 (fun q19 tq19 => ?_)
    refine lv_goto (tgt := 30) hx hb dX0_find_26 (by decide) ?_
    exact u_aret C h hr (Or.inl ⟨_, rfl⟩) hQ (v := q19) (⟨tq19, t, o⟩) (Nat.le_of_ble_eq_true rfl) (Nat.le_of_ble_eq_true rfl) rfl dX0_find_30
abbrev rm_s_X1_holds : Room := { frames := 0, cells := 0, slots := 0, locals := 0 }
set_option maxRecDepth 100000 in
set_option maxHeartbeats 4000000 in
theorem s_X1_holds (l : Launch) (D : va_G) (G : Nat → Nat) (b0 : Nat) (τ : Nat → Nat) (f : hM) (t : TI G 9 τ f) (u0 : Nat) (hu0 : τ u0 = 23) (u1 : Int32) (hu1 : iv u1 (-2147483648) 2147483647) (u2 : Int32) (hu2 : iv u2 (-2147483648) 2147483647) : mI l yX1_holds cX1_holds 3 (.boolean) rm_s_X1_holds D G b0 f [.ref u0, .int u1, .int u2] (fun r f1 => iv r 0 1 ∧ TI G 9 τ f1 ∧ Fr [] τ f f1) := by
  refine met2 (own := RX1) (by decide) rfl (Nat.le_of_ble_eq_true rfl) ?_
  intro p e s m args below meth c ls Q hQ C hr hini hl h
  have hl : lv_has ls 3 [(0, .ref u0), (1, .int u1), (2, .int u2)] := hl
  obtain ⟨hx, hb, hml, hown, hts, hE0, hlk⟩ := id C
  have o := Fr.rf [] τ f
  refine lv_iload_n hx hb dX1_holds_0 rfl (lv_at hl 1 rfl) ?_
  refine lv_aload_n hx hb dX1_holds_1 rfl (lv_at hl 0 rfl) ?_
  refine t_geti C h t hu0 (by decide) wf_23 rfl fl_X1_7 dX1_holds_2 (fun z1 iz1 => ?_)
  refine lv_icmp_lt (tgt := 36) hx hb dX1_holds_5 (by decide) (fun c2 => ?_) (fun c2 => ?_)
  · have c3 : u1.toInt < z1.toInt := Int32.lt_iff_toInt_lt.mp c2
    have i4 : iv u1 (-2147483648) 68 := iv_Ll c3 hu1 iz1 (by decide)
    refine lv_iconst (v := 0) hx hb dX1_holds_36 (by decide) ?_
    exact u_zret C h hr hQ ⟨by decide, by decide⟩ (⟨⟨by decide, by decide⟩, t, o⟩) (Nat.le_of_ble_eq_true rfl) (Nat.le_of_ble_eq_true rfl) dX1_holds_37
  · have c5 : z1.toInt ≤ u1.toInt := Int32.le_iff_toInt_le.mp (iv_nlt c2)
    have i6 : iv u1 (-60) 2147483647 := iv_Er c5 iz1 hu1 (by decide)
    refine lv_iload_n hx hb dX1_holds_8 rfl (lv_at hl 1 rfl) ?_
    refine lv_aload_n hx hb dX1_holds_9 rfl (lv_at hl 0 rfl) ?_
    refine t_geti C h t hu0 (by decide) wf_23 rfl fl_X1_13 dX1_holds_10 (fun z7 iz7 => ?_)
    refine lv_icmp_gt (tgt := 36) hx hb dX1_holds_13 (by decide) (fun c8 => ?_) (fun c8 => ?_)
    · have c9 : z7.toInt < u1.toInt := Int32.lt_iff_toInt_lt.mp c8
      have i10 : iv u1 (-59) 2147483647 := iv_Lr c9 iz7 i6 (by decide)
      refine lv_iconst (v := 0) hx hb dX1_holds_36 (by decide) ?_
      exact u_zret C h hr hQ ⟨by decide, by decide⟩ (⟨⟨by decide, by decide⟩, t, o⟩) (Nat.le_of_ble_eq_true rfl) (Nat.le_of_ble_eq_true rfl) dX1_holds_37
    · have c11 : u1.toInt ≤ z7.toInt := Int32.le_iff_toInt_le.mp (iv_nlt c8)
      have i12 : iv u1 (-60) 69 := iv_El c11 i6 iz7 (by decide)
      refine lv_iload_n hx hb dX1_holds_16 rfl (lv_at hl 2 rfl) ?_
      refine lv_aload_n hx hb dX1_holds_17 rfl (lv_at hl 0 rfl) ?_
      refine t_geti C h t hu0 (by decide) wf_23 rfl fl_X1_16 dX1_holds_18 (fun z13 iz13 => ?_)
      refine lv_icmp_lt (tgt := 36) hx hb dX1_holds_21 (by decide) (fun c14 => ?_) (fun c14 => ?_)
      · have c15 : u2.toInt < z13.toInt := Int32.lt_iff_toInt_lt.mp c14
        have i16 : iv u2 (-2147483648) 68 := iv_Ll c15 hu2 iz13 (by decide)
        refine lv_iconst (v := 0) hx hb dX1_holds_36 (by decide) ?_
        exact u_zret C h hr hQ ⟨by decide, by decide⟩ (⟨⟨by decide, by decide⟩, t, o⟩) (Nat.le_of_ble_eq_true rfl) (Nat.le_of_ble_eq_true rfl) dX1_holds_37
      · have c17 : z13.toInt ≤ u2.toInt := Int32.le_iff_toInt_le.mp (iv_nlt c14)
        have i18 : iv u2 (-60) 2147483647 := iv_Er c17 iz13 hu2 (by decide)
        refine lv_iload_n hx hb dX1_holds_24 rfl (lv_at hl 2 rfl) ?_
        refine lv_aload_n hx hb dX1_holds_25 rfl (lv_at hl 0 rfl) ?_
        refine t_geti C h t hu0 (by decide) wf_23 rfl fl_X1_19 dX1_holds_26 (fun z19 iz19 => ?_)
        refine lv_icmp_gt (tgt := 36) hx hb dX1_holds_29 (by decide) (fun c20 => ?_) (fun c20 => ?_)
        · have c21 : z19.toInt < u2.toInt := Int32.lt_iff_toInt_lt.mp c20
          have i22 : iv u2 (-59) 2147483647 := iv_Lr c21 iz19 i18 (by decide)
          refine lv_iconst (v := 0) hx hb dX1_holds_36 (by decide) ?_
          exact u_zret C h hr hQ ⟨by decide, by decide⟩ (⟨⟨by decide, by decide⟩, t, o⟩) (Nat.le_of_ble_eq_true rfl) (Nat.le_of_ble_eq_true rfl) dX1_holds_37
        · have c23 : u2.toInt ≤ z19.toInt := Int32.le_iff_toInt_le.mp (iv_nlt c20)
          have i24 : iv u2 (-60) 69 := iv_El c23 i18 iz19 (by decide)
          refine lv_iconst (v := 1) hx hb dX1_holds_32 (by decide) ?_
          refine lv_goto (tgt := 37) hx hb dX1_holds_33 (by decide) ?_
          exact u_zret C h hr hQ ⟨by decide, by decide⟩ (⟨⟨by decide, by decide⟩, t, o⟩) (Nat.le_of_ble_eq_true rfl) (Nat.le_of_ble_eq_true rfl) dX1_holds_37
abbrev rm_s_J6_bitCount_0f7a4 : Room := { frames := 0, cells := 0, slots := 0, locals := 0 }
set_option maxRecDepth 100000 in
set_option maxHeartbeats 4000000 in
theorem s_J6_bitCount_0f7a4 (l : Launch) (D : va_G) (G : Nat → Nat) (b0 : Nat) (τ : Nat → Nat) (f : hM) (t : TI G 9 τ f) (u0 : Int32) (hu0 : iv u0 (-2147483648) 2147483647) : mI l yJ6_bitCount_0f7a4 cJ6_bitCount_0f7a4 1 (.int) rm_s_J6_bitCount_0f7a4 D G b0 f [.int u0] (fun r f1 => iv r 0 63 ∧ TI G 9 τ f1 ∧ Fr [] τ f f1) := by
  refine met2 (own := RJ6) (by decide) rfl (Nat.le_of_ble_eq_true rfl) ?_
  intro p e s m args below meth c ls Q hQ C hr hini hl h
  have hl : lv_has ls 1 [(0, .int u0)] := hl
  obtain ⟨hx, hb, hml, hown, hts, hE0, hlk⟩ := id C
  have o := Fr.rf [] τ f
  refine lv_iload_n hx hb dJ6_bitCount_0f7a4_0 rfl (lv_at hl 0 rfl) ?_
  refine lv_iload_n hx hb dJ6_bitCount_0f7a4_1 rfl (lv_at hl 0 rfl) ?_
  refine lv_iconst (v := 1) hx hb dJ6_bitCount_0f7a4_2 (by decide) ?_
  refine lv_iushr hx hb dJ6_bitCount_0f7a4_3 rfl (i_top (iv_any _) (fun z1 ez1 iz1 => ?_))
  refine lv_ldcw (v := 1431655765) hx hb hown (hts _ w_1345) dJ6_bitCount_0f7a4_4 ?_
  refine lv_iand hx hb dJ6_bitCount_0f7a4_7 (i_top (iv_and (k := 1431655765) rfl (by decide)) (fun z2 ez2 iz2 => ?_))
  refine lv_isub hx hb dJ6_bitCount_0f7a4_8 (i_top (iv_any _) (fun z3 ez3 iz3 => ?_))
  refine lv_istore_n (lv' := [(0, .int z3)]) hx hb dJ6_bitCount_0f7a4_9 rfl hl (by decide) rfl (fun ls hl => ?_)
  refine lv_iload_n hx hb dJ6_bitCount_0f7a4_10 rfl (lv_at hl 0 rfl) ?_
  refine lv_ldcw (v := 858993459) hx hb hown (hts _ w_1346) dJ6_bitCount_0f7a4_11 ?_
  refine lv_iand hx hb dJ6_bitCount_0f7a4_14 (i_top (iv_and (k := 858993459) rfl (by decide)) (fun z4 ez4 iz4 => ?_))
  refine lv_iload_n hx hb dJ6_bitCount_0f7a4_15 rfl (lv_at hl 0 rfl) ?_
  refine lv_iconst (v := 2) hx hb dJ6_bitCount_0f7a4_16 (by decide) ?_
  refine lv_iushr hx hb dJ6_bitCount_0f7a4_17 rfl (i_top (iv_any _) (fun z5 ez5 iz5 => ?_))
  refine lv_ldcw (v := 858993459) hx hb hown (hts _ w_1346) dJ6_bitCount_0f7a4_18 ?_
  refine lv_iand hx hb dJ6_bitCount_0f7a4_21 (i_top (iv_and (k := 858993459) rfl (by decide)) (fun z6 ez6 iz6 => ?_))
  refine i_add hx hb dJ6_bitCount_0f7a4_22 iz4 iz6 (lo := 0) (hi := 1717986918) (by decide) (fun z7 ez7 mz7 iz7 => ?_)
  refine lv_istore_n (lv' := [(0, .int z7)]) hx hb dJ6_bitCount_0f7a4_23 rfl hl (by decide) rfl (fun ls hl => ?_)
  refine lv_iload_n hx hb dJ6_bitCount_0f7a4_24 rfl (lv_at hl 0 rfl) ?_
  refine lv_iload_n hx hb dJ6_bitCount_0f7a4_25 rfl (lv_at hl 0 rfl) ?_
  refine lv_iconst (v := 4) hx hb dJ6_bitCount_0f7a4_26 (by decide) ?_
  refine lv_iushr hx hb dJ6_bitCount_0f7a4_27 rfl (i_top (iv_any _) (fun z8 ez8 iz8 => ?_))
  refine lv_iadd hx hb dJ6_bitCount_0f7a4_28 (i_top (iv_any _) (fun z9 ez9 iz9 => ?_))
  refine lv_ldcw (v := 252645135) hx hb hown (hts _ w_1347) dJ6_bitCount_0f7a4_29 ?_
  refine lv_iand hx hb dJ6_bitCount_0f7a4_32 (i_top (iv_and (k := 252645135) rfl (by decide)) (fun z10 ez10 iz10 => ?_))
  refine lv_istore_n (lv' := [(0, .int z10)]) hx hb dJ6_bitCount_0f7a4_33 rfl hl (by decide) rfl (fun ls hl => ?_)
  refine lv_iload_n hx hb dJ6_bitCount_0f7a4_34 rfl (lv_at hl 0 rfl) ?_
  refine lv_iload_n hx hb dJ6_bitCount_0f7a4_35 rfl (lv_at hl 0 rfl) ?_
  refine lv_bipush (v := 8) hx hb dJ6_bitCount_0f7a4_36 (by decide) ?_
  refine lv_iushr hx hb dJ6_bitCount_0f7a4_38 rfl (i_top (iv_any _) (fun z11 ez11 iz11 => ?_))
  refine lv_iadd hx hb dJ6_bitCount_0f7a4_39 (i_top (iv_any _) (fun z12 ez12 iz12 => ?_))
  refine lv_istore_n (lv' := [(0, .int z12)]) hx hb dJ6_bitCount_0f7a4_40 rfl hl (by decide) rfl (fun ls hl => ?_)
  refine lv_iload_n hx hb dJ6_bitCount_0f7a4_41 rfl (lv_at hl 0 rfl) ?_
  refine lv_iload_n hx hb dJ6_bitCount_0f7a4_42 rfl (lv_at hl 0 rfl) ?_
  refine lv_bipush (v := 16) hx hb dJ6_bitCount_0f7a4_43 (by decide) ?_
  refine lv_iushr hx hb dJ6_bitCount_0f7a4_45 rfl (i_top (iv_any _) (fun z13 ez13 iz13 => ?_))
  refine lv_iadd hx hb dJ6_bitCount_0f7a4_46 (i_top (iv_any _) (fun z14 ez14 iz14 => ?_))
  refine lv_istore_n (lv' := [(0, .int z14)]) hx hb dJ6_bitCount_0f7a4_47 rfl hl (by decide) rfl (fun ls hl => ?_)
  refine lv_iload_n hx hb dJ6_bitCount_0f7a4_48 rfl (lv_at hl 0 rfl) ?_
  refine lv_bipush (v := 63) hx hb dJ6_bitCount_0f7a4_49 (by decide) ?_
  refine lv_iand hx hb dJ6_bitCount_0f7a4_51 (i_top (iv_and (k := 63) rfl (by decide)) (fun z15 ez15 iz15 => ?_))
  exact u_iret C h hr hQ (⟨iz15, t, o⟩) (Nat.le_of_ble_eq_true rfl) (Nat.le_of_ble_eq_true rfl) dJ6_bitCount_0f7a4_52
abbrev rm_s_X8_mixed : Room := { frames := 1, cells := 0, slots := 0, locals := 25 }
set_option maxRecDepth 100000 in
set_option maxHeartbeats 4000000 in
theorem s_X8_mixed (l : Launch) (D : va_G) (G : Nat → Nat) (b0 : Nat) (τ : Nat → Nat) (f : hM) (t : TI G 9 τ f) (u0 : Int32) (hu0 : iv u0 (-2147483648) 2147483647) (u1 : Int32) (hu1 : iv u1 (-2147483648) 2147483647) (u2 : Int32) (hu2 : iv u2 (-2147483648) 2147483647) (u3 : Int32) (hu3 : iv u3 (-2147483648) 2147483647) : mI l yX8_mixed cX8_mixed 4 (.int) rm_s_X8_mixed D G b0 f [.int u0, .int u1, .int u2, .int u3] (fun r f1 => iv r (-2147483648) 2147483647 ∧ TI G 9 τ f1 ∧ Fr [] τ f f1) := by
  refine met2 (own := RX8) (by decide) rfl (Nat.le_of_ble_eq_true rfl) ?_
  intro p e s m args below meth c ls Q hQ C hr hini hl h
  have hl : lv_has ls 4 [(0, .int u0), (1, .int u1), (2, .int u2), (3, .int u3)] := hl
  obtain ⟨hx, hb, hml, hown, hts, hE0, hlk⟩ := id C
  have o := Fr.rf [] τ f
  refine lv_iload_n hx hb dX8_mixed_0 rfl (lv_at hl 0 rfl) ?_
  refine lv_i2l hx hb dX8_mixed_1 rfl (i_topL hu0 (fun w1 ew1 mw1 iw1 => ?_))
  refine lv_iload_n hx hb dX8_mixed_2 rfl (lv_at hl 3 rfl) ?_
  refine lv_i2l hx hb dX8_mixed_3 rfl (i_topL hu3 (fun w2 ew2 mw2 iw2 => ?_))
  refine lv_lmul hx hb dX8_mixed_4 (lv_topl (fun w3 ew3 => ?_))
  refine lv_iload_n hx hb dX8_mixed_5 rfl (lv_at hl 1 rfl) ?_
  refine lv_i2l hx hb dX8_mixed_6 rfl (i_topL hu1 (fun w4 ew4 mw4 iw4 => ?_))
  refine lv_ladd hx hb dX8_mixed_7 (lv_topl (fun w5 ew5 => ?_))
  refine lv_iload_n hx hb dX8_mixed_8 rfl (lv_at hl 2 rfl) ?_
  refine lv_i2l hx hb dX8_mixed_9 rfl (i_topL hu2 (fun w6 ew6 mw6 iw6 => ?_))
  refine lv_iload_n hx hb dX8_mixed_10 rfl (lv_at hl 3 rfl) ?_
  refine k_i (r_SN C h hl (host := "QuarterWalks") (As := [.int u3]) (rest := [.long w6, .long w5]) (s_X10_inverse l D G b0 τ f t u3 hu3) mk_X10_inverse (by decide) w_810 w_811 ⟨Nat.le_of_ble_eq_true rfl, Nat.le_of_ble_eq_true rfl⟩ rfl (Nat.le_of_ble_eq_true rfl) ⟨Nat.le_of_ble_eq_true rfl, Nat.le_of_ble_eq_true rfl⟩ rfl dX8_mixed_11) h (fun r7 f8 H locs p9 h => ?_)
  obtain ⟨ir7, tf8, ogf8⟩ := p9
  have egf8 := Fr.nil2 ogf8
  subst egf8
  refine lv_i2l hx hb dX8_mixed_14 rfl (i_topL ir7 (fun w10 ew10 mw10 iw10 => ?_))
  refine lv_lmul hx hb dX8_mixed_15 (lv_topl (fun w11 ew11 => ?_))
  refine lv_ladd hx hb dX8_mixed_16 (lv_topl (fun w12 ew12 => ?_))
  refine k_i (r_SN C h hl (host := "QuarterWalks") (As := [.long w12]) (rest := []) (s_X10_residue l D G b0 τ f t w12) mk_X10_residue (by decide) w_741 w_742 ⟨Nat.le_of_ble_eq_true rfl, Nat.le_of_ble_eq_true rfl⟩ rfl (Nat.le_of_ble_eq_true rfl) ⟨Nat.le_of_ble_eq_true rfl, Nat.le_of_ble_eq_true rfl⟩ rfl dX8_mixed_17) h (fun r13 f14 H locs p15 h => ?_)
  obtain ⟨ir13, tf14, ogf14⟩ := p15
  have egf14 := Fr.nil2 ogf14
  subst egf14
  exact u_iret C h hr hQ (⟨ir13, t, o⟩) (Nat.le_of_ble_eq_true rfl) (Nat.le_of_ble_eq_true rfl) dX8_mixed_20
abbrev rm_s_X8_quotient : Room := { frames := 1, cells := 0, slots := 0, locals := 25 }
set_option maxRecDepth 100000 in
set_option maxHeartbeats 4000000 in
theorem s_X8_quotient (l : Launch) (D : va_G) (G : Nat → Nat) (b0 : Nat) (τ : Nat → Nat) (f : hM) (t : TI G 9 τ f) (u0 : Int32) (hu0 : iv u0 (-2147483648) 2147483647) (u1 : Int32) (hu1 : iv u1 (-2147483648) 2147483647) (u2 : Int32) (hu2 : iv u2 (-2147483648) 2147483647) : mI l yX8_quotient cX8_quotient 3 (.int) rm_s_X8_quotient D G b0 f [.int u0, .int u1, .int u2] (fun r f1 => iv r (-1000002) 1000002 ∧ TI G 9 τ f1 ∧ Fr [] τ f f1) := by
  refine met2 (own := RX8) (by decide) rfl (Nat.le_of_ble_eq_true rfl) ?_
  intro p e s m args below meth c ls Q hQ C hr hini hl h
  have hl : lv_has ls 3 [(0, .int u0), (1, .int u1), (2, .int u2)] := hl
  obtain ⟨hx, hb, hml, hown, hts, hE0, hlk⟩ := id C
  have o := Fr.rf [] τ f
  refine lv_iload_n hx hb dX8_quotient_0 rfl (lv_at hl 0 rfl) ?_
  refine lv_if_eq (tgt := 8) hx hb dX8_quotient_1 (by decide) (fun c1 => ?_) (fun c1 => ?_)
  · have c2 : u0.toInt = 0 := congrArg Int32.toInt c1
    have i3 : iv u0 0 0 := iv_Q c2 hu0 (iv_k (x := 0) (k := 0) rfl) (by decide)
    refine lv_iconst (v := -1) hx hb dX8_quotient_8 (by decide) ?_
    refine lv_goto (tgt := 28) hx hb dX8_quotient_9 (by decide) ?_
    exact u_iret C h hr hQ (⟨⟨by decide, by decide⟩, t, o⟩) (Nat.le_of_ble_eq_true rfl) (Nat.le_of_ble_eq_true rfl) dX8_quotient_28
  · have c4 : u0.toInt ≠ 0 := fun z_ => c1 (Int32.toInt_inj.mp z_)
    refine lv_iload_n hx hb dX8_quotient_4 rfl (lv_at hl 1 rfl) ?_
    refine lv_if_ne (tgt := 12) hx hb dX8_quotient_5 (by decide) (fun c5 => ?_) (fun c5 => ?_)
    · have c6 : u1.toInt ≠ 0 := fun z_ => c5 (Int32.toInt_inj.mp z_)
      refine lv_iload_n hx hb dX8_quotient_12 rfl (lv_at hl 0 rfl) ?_
      refine lv_i2l hx hb dX8_quotient_13 rfl (i_topL hu0 (fun w9 ew9 mw9 iw9 => ?_))
      refine lv_iload_n hx hb dX8_quotient_14 rfl (lv_at hl 1 rfl) ?_
      refine lv_i2l hx hb dX8_quotient_15 rfl (i_topL hu1 (fun w10 ew10 mw10 iw10 => ?_))
      refine lv_iload_n hx hb dX8_quotient_16 rfl (lv_at hl 2 rfl) ?_
      refine lv_i2l hx hb dX8_quotient_17 rfl (i_topL hu2 (fun w11 ew11 mw11 iw11 => ?_))
      refine k_i (r_SN C h hl (host := "QuarterWalks") (As := [.long w10, .long w11]) (rest := [.long w9]) (s_X10_times l D G b0 τ f t w10 w11) mk_X10_times (by decide) w_807 w_808 ⟨Nat.le_of_ble_eq_true rfl, Nat.le_of_ble_eq_true rfl⟩ rfl (Nat.le_of_ble_eq_true rfl) ⟨Nat.le_of_ble_eq_true rfl, Nat.le_of_ble_eq_true rfl⟩ rfl dX8_quotient_18) h (fun r12 f13 H locs p14 h => ?_)
      obtain ⟨ir12, tf13, ogf13⟩ := p14
      have egf13 := Fr.nil2 ogf13
      subst egf13
      refine k_i (r_SN C h hl (host := "QuarterWalks") (As := [.int r12]) (rest := [.long w9]) (s_X10_inverse l D G b0 τ f t r12 (iv_w ir12 (by decide))) mk_X10_inverse (by decide) w_810 w_811 ⟨Nat.le_of_ble_eq_true rfl, Nat.le_of_ble_eq_true rfl⟩ rfl (Nat.le_of_ble_eq_true rfl) ⟨Nat.le_of_ble_eq_true rfl, Nat.le_of_ble_eq_true rfl⟩ rfl dX8_quotient_21) h (fun r15 f16 H locs p17 h => ?_)
      obtain ⟨ir15, tf16, ogf16⟩ := p17
      have egf16 := Fr.nil2 ogf16
      subst egf16
      refine lv_i2l hx hb dX8_quotient_24 rfl (i_topL ir15 (fun w18 ew18 mw18 iw18 => ?_))
      refine k_i (r_SN C h hl (host := "QuarterWalks") (As := [.long w9, .long w18]) (rest := []) (s_X10_times l D G b0 τ f t w9 w18) mk_X10_times (by decide) w_807 w_808 ⟨Nat.le_of_ble_eq_true rfl, Nat.le_of_ble_eq_true rfl⟩ rfl (Nat.le_of_ble_eq_true rfl) ⟨Nat.le_of_ble_eq_true rfl, Nat.le_of_ble_eq_true rfl⟩ rfl dX8_quotient_25) h (fun r19 f20 H locs p21 h => ?_)
      obtain ⟨ir19, tf20, ogf20⟩ := p21
      have egf20 := Fr.nil2 ogf20
      subst egf20
      exact u_iret C h hr hQ (⟨ir19, t, o⟩) (Nat.le_of_ble_eq_true rfl) (Nat.le_of_ble_eq_true rfl) dX8_quotient_28
    · have c7 : u1.toInt = 0 := congrArg Int32.toInt c5
      have i8 : iv u1 0 0 := iv_Q c7 hu1 (iv_k (x := 0) (k := 0) rfl) (by decide)
      refine lv_iconst (v := -1) hx hb dX8_quotient_8 (by decide) ?_
      refine lv_goto (tgt := 28) hx hb dX8_quotient_9 (by decide) ?_
      exact u_iret C h hr hQ (⟨⟨by decide, by decide⟩, t, o⟩) (Nat.le_of_ble_eq_true rfl) (Nat.le_of_ble_eq_true rfl) dX8_quotient_28
abbrev rm_s_X8_kernelAt : Room := { frames := 2, cells := 0, slots := 0, locals := 48 }
set_option maxRecDepth 100000 in
set_option maxHeartbeats 4000000 in
theorem s_X8_kernelAt (l : Launch) (D : va_G) (G : Nat → Nat) (b0 : Nat) (τ : Nat → Nat) (f : hM) (t : TI G 9 τ f) (u0 : Nat) (hu0 : τ u0 = 1) (u1 : Int32) (hu1 : iv u1 (-2147483648) 2147483647) (u2 : Int32) (hu2 : iv u2 (-2147483648) 2147483647) : mI l yX8_kernelAt cX8_kernelAt 6 (.int) rm_s_X8_kernelAt D G b0 f [.ref u0, .int u1, .int u2] (fun r f1 => iv r (-2147483648) 2147483647 ∧ TI G 9 τ f1 ∧ Fr [] τ f f1) := by
  refine met2 (own := RX8) (by decide) rfl (Nat.le_of_ble_eq_true rfl) ?_
  intro p e s m args below meth c ls Q hQ C hr hini hl h
  have hl : lv_has ls 6 [(0, .ref u0), (1, .int u1), (2, .int u2)] := hl
  obtain ⟨hx, hb, hml, hown, hts, hE0, hlk⟩ := id C
  have o := Fr.rf [] τ f
  refine lv_aload_n hx hb dX8_kernelAt_0 rfl (lv_at hl 0 rfl) ?_
  refine t_getr (tq := 2) C h t hu0 (by decide) wf_1 rfl fl_X8_18 dX8_kernelAt_1 (fun q1 tq1 => ?_)
  refine lv_astore_n (lv' := [(3, .ref q1), (0, .ref u0), (1, .int u1), (2, .int u2)]) hx hb dX8_kernelAt_4 rfl hl (by decide) rfl (fun ls hl => ?_)
  refine lv_aload_n hx hb dX8_kernelAt_5 rfl (lv_at hl 0 rfl) ?_
  refine lv_iconst (v := 1) hx hb dX8_kernelAt_6 (by decide) ?_
  refine t_iald C h t tq1 (by decide) wf_2 (by unfold vp_in; decide) dX8_kernelAt_7 (fun z2 iz2 => ?_)
  refine lv_aload_n hx hb dX8_kernelAt_8 rfl (lv_at hl 0 rfl) ?_
  refine lv_iconst (v := 2) hx hb dX8_kernelAt_9 (by decide) ?_
  refine t_iald C h t tq1 (by decide) wf_2 (by unfold vp_in; decide) dX8_kernelAt_10 (fun z3 iz3 => ?_)
  refine lv_aload_n hx hb dX8_kernelAt_11 rfl (lv_at hl 0 rfl) ?_
  refine lv_iconst (v := 3) hx hb dX8_kernelAt_12 (by decide) ?_
  refine t_iald C h t tq1 (by decide) wf_2 (by unfold vp_in; decide) dX8_kernelAt_13 (fun z4 iz4 => ?_)
  refine lv_iload_n hx hb dX8_kernelAt_14 rfl (lv_at hl 3 rfl) ?_
  refine k_i (r_S C h hl (As := [.int z2, .int z3, .int z4, .int u2]) (rest := []) (s_X8_mixed l D G b0 τ f t z2 (iv_w iz2 (by decide)) z3 (iv_w iz3 (by decide)) z4 (iv_w iz4 (by decide)) u2 hu2) mk_X8_mixed w_947 w_948 w_949 ⟨Nat.le_of_ble_eq_true rfl, Nat.le_of_ble_eq_true rfl⟩ rfl (Nat.le_of_ble_eq_true rfl) ⟨Nat.le_of_ble_eq_true rfl, Nat.le_of_ble_eq_true rfl⟩ rfl dX8_kernelAt_15) h (fun r5 f6 H locs p7 h => ?_)
  obtain ⟨ir5, tf6, ogf6⟩ := p7
  have egf6 := Fr.nil2 ogf6
  subst egf6
  refine lv_i2l hx hb dX8_kernelAt_18 rfl (i_topL ir5 (fun w8 ew8 mw8 iw8 => ?_))
  refine lv_iload_n hx hb dX8_kernelAt_19 rfl (lv_at hl 2 rfl) ?_
  refine lv_i2l hx hb dX8_kernelAt_20 rfl (i_topL hu1 (fun w9 ew9 mw9 iw9 => ?_))
  refine k_i (r_SN C h hl (host := "QuarterWalks") (As := [.long w8, .long w9]) (rest := []) (s_X10_times l D G b0 τ f t w8 w9) mk_X10_times (by decide) w_807 w_808 ⟨Nat.le_of_ble_eq_true rfl, Nat.le_of_ble_eq_true rfl⟩ rfl (Nat.le_of_ble_eq_true rfl) ⟨Nat.le_of_ble_eq_true rfl, Nat.le_of_ble_eq_true rfl⟩ rfl dX8_kernelAt_21) h (fun r10 f11 H locs p12 h => ?_)
  obtain ⟨ir10, tf11, ogf11⟩ := p12
  have egf11 := Fr.nil2 ogf11
  subst egf11
  refine lv_i2l hx hb dX8_kernelAt_24 rfl (i_topL ir10 (fun w13 ew13 mw13 iw13 => ?_))
  refine lv_aload_n hx hb dX8_kernelAt_25 rfl (lv_at hl 0 rfl) ?_
  refine lv_bipush (v := 7) hx hb dX8_kernelAt_26 (by decide) ?_
  refine t_iald C h t tq1 (by decide) wf_2 (by unfold vp_in; decide) dX8_kernelAt_28 (fun z14 iz14 => ?_)
  refine lv_aload_n hx hb dX8_kernelAt_29 rfl (lv_at hl 0 rfl) ?_
  refine lv_bipush (v := 6) hx hb dX8_kernelAt_30 (by decide) ?_
  refine t_iald C h t tq1 (by decide) wf_2 (by unfold vp_in; decide) dX8_kernelAt_32 (fun z15 iz15 => ?_)
  refine lv_aload_n hx hb dX8_kernelAt_33 rfl (lv_at hl 0 rfl) ?_
  refine lv_iconst (v := 5) hx hb dX8_kernelAt_34 (by decide) ?_
  refine t_iald C h t tq1 (by decide) wf_2 (by unfold vp_in; decide) dX8_kernelAt_35 (fun z16 iz16 => ?_)
  refine lv_iload_n hx hb dX8_kernelAt_36 rfl (lv_at hl 3 rfl) ?_
  refine k_i (r_S C h hl (As := [.int z14, .int z15, .int z16, .int u2]) (rest := [.long w13]) (s_X8_mixed l D G b0 τ f t z14 (iv_w iz14 (by decide)) z15 (iv_w iz15 (by decide)) z16 (iv_w iz16 (by decide)) u2 hu2) mk_X8_mixed w_947 w_948 w_949 ⟨Nat.le_of_ble_eq_true rfl, Nat.le_of_ble_eq_true rfl⟩ rfl (Nat.le_of_ble_eq_true rfl) ⟨Nat.le_of_ble_eq_true rfl, Nat.le_of_ble_eq_true rfl⟩ rfl dX8_kernelAt_37) h (fun r17 f18 H locs p19 h => ?_)
  obtain ⟨ir17, tf18, ogf18⟩ := p19
  have egf18 := Fr.nil2 ogf18
  subst egf18
  refine lv_i2l hx hb dX8_kernelAt_40 rfl (i_topL ir17 (fun w20 ew20 mw20 iw20 => ?_))
  refine lv_iload_n hx hb dX8_kernelAt_41 rfl (lv_at hl 2 rfl) ?_
  refine k_i (r_SN C h hl (host := "QuarterWalks") (As := [.int u1]) (rest := [.long w20, .long w13]) (s_X10_inverse l D G b0 τ f t u1 hu1) mk_X10_inverse (by decide) w_810 w_811 ⟨Nat.le_of_ble_eq_true rfl, Nat.le_of_ble_eq_true rfl⟩ rfl (Nat.le_of_ble_eq_true rfl) ⟨Nat.le_of_ble_eq_true rfl, Nat.le_of_ble_eq_true rfl⟩ rfl dX8_kernelAt_42) h (fun r21 f22 H locs p23 h => ?_)
  obtain ⟨ir21, tf22, ogf22⟩ := p23
  have egf22 := Fr.nil2 ogf22
  subst egf22
  refine lv_i2l hx hb dX8_kernelAt_45 rfl (i_topL ir21 (fun w24 ew24 mw24 iw24 => ?_))
  refine k_i (r_SN C h hl (host := "QuarterWalks") (As := [.long w20, .long w24]) (rest := [.long w13]) (s_X10_times l D G b0 τ f t w20 w24) mk_X10_times (by decide) w_807 w_808 ⟨Nat.le_of_ble_eq_true rfl, Nat.le_of_ble_eq_true rfl⟩ rfl (Nat.le_of_ble_eq_true rfl) ⟨Nat.le_of_ble_eq_true rfl, Nat.le_of_ble_eq_true rfl⟩ rfl dX8_kernelAt_46) h (fun r25 f26 H locs p27 h => ?_)
  obtain ⟨ir25, tf26, ogf26⟩ := p27
  have egf26 := Fr.nil2 ogf26
  subst egf26
  refine lv_i2l hx hb dX8_kernelAt_49 rfl (i_topL ir25 (fun w28 ew28 mw28 iw28 => ?_))
  refine lv_ladd hx hb dX8_kernelAt_50 (lv_topl (fun w29 ew29 => ?_))
  refine lv_lstore (lv' := [(4, .long w29), (3, .ref q1), (0, .ref u0), (1, .int u1), (2, .int u2)]) hx hb dX8_kernelAt_51 hl (by decide) rfl (fun ls hl => ?_)
  refine lv_lload hx hb dX8_kernelAt_53 (lv_at hl 0 rfl) ?_
  refine lv_aload_n hx hb dX8_kernelAt_55 rfl (lv_at hl 1 rfl) ?_
  refine lv_iconst (v := 0) hx hb dX8_kernelAt_56 (by decide) ?_
  refine t_iald C h t tq1 (by decide) wf_2 (by unfold vp_in; decide) dX8_kernelAt_57 (fun z30 iz30 => ?_)
  refine lv_iconst (v := 0) hx hb dX8_kernelAt_58 (by decide) ?_
  refine lv_aload_n hx hb dX8_kernelAt_59 rfl (lv_at hl 1 rfl) ?_
  refine lv_iconst (v := 4) hx hb dX8_kernelAt_60 (by decide) ?_
  refine t_iald C h t tq1 (by decide) wf_2 (by unfold vp_in; decide) dX8_kernelAt_61 (fun z31 iz31 => ?_)
  refine lv_iload_n hx hb dX8_kernelAt_62 rfl (lv_at hl 4 rfl) ?_
  refine k_i (r_S C h hl (As := [.int z30, .int 0, .int z31, .int u2]) (rest := [.long w29]) (s_X8_mixed l D G b0 τ f t z30 (iv_w iz30 (by decide)) 0 (iv_w (iv_k (x := 0) (k := 0) rfl) (by decide)) z31 (iv_w iz31 (by decide)) u2 hu2) mk_X8_mixed w_947 w_948 w_949 ⟨Nat.le_of_ble_eq_true rfl, Nat.le_of_ble_eq_true rfl⟩ rfl (Nat.le_of_ble_eq_true rfl) ⟨Nat.le_of_ble_eq_true rfl, Nat.le_of_ble_eq_true rfl⟩ rfl dX8_kernelAt_63) h (fun r32 f33 H locs p34 h => ?_)
  obtain ⟨ir32, tf33, ogf33⟩ := p34
  have egf33 := Fr.nil2 ogf33
  subst egf33
  refine lv_i2l hx hb dX8_kernelAt_66 rfl (i_topL ir32 (fun w35 ew35 mw35 iw35 => ?_))
  refine lv_ladd hx hb dX8_kernelAt_67 (lv_topl (fun w36 ew36 => ?_))
  refine k_i (r_SN C h hl (host := "QuarterWalks") (As := [.long w36]) (rest := []) (s_X10_residue l D G b0 τ f t w36) mk_X10_residue (by decide) w_741 w_742 ⟨Nat.le_of_ble_eq_true rfl, Nat.le_of_ble_eq_true rfl⟩ rfl (Nat.le_of_ble_eq_true rfl) ⟨Nat.le_of_ble_eq_true rfl, Nat.le_of_ble_eq_true rfl⟩ rfl dX8_kernelAt_68) h (fun r37 f38 H locs p39 h => ?_)
  obtain ⟨ir37, tf38, ogf38⟩ := p39
  have egf38 := Fr.nil2 ogf38
  subst egf38
  exact u_iret C h hr hQ (⟨ir37, t, o⟩) (Nat.le_of_ble_eq_true rfl) (Nat.le_of_ble_eq_true rfl) dX8_kernelAt_71
abbrev rm_s_X8_newX : Room := { frames := 2, cells := 0, slots := 0, locals := 48 }
set_option maxRecDepth 100000 in
set_option maxHeartbeats 4000000 in
theorem s_X8_newX (l : Launch) (D : va_G) (G : Nat → Nat) (b0 : Nat) (τ : Nat → Nat) (f : hM) (t : TI G 9 τ f) (u0 : Nat) (hu0 : τ u0 = 1) (u1 : Int32) (hu1 : iv u1 (-2147483648) 2147483647) (u2 : Int32) (hu2 : iv u2 (-2147483648) 2147483647) : mI l yX8_newX cX8_newX 4 (.int) rm_s_X8_newX D G b0 f [.ref u0, .int u1, .int u2] (fun r f1 => iv r (-1000002) 1000002 ∧ TI G 9 τ f1 ∧ Fr [] τ f f1) := by
  refine met2 (own := RX8) (by decide) rfl (Nat.le_of_ble_eq_true rfl) ?_
  intro p e s m args below meth c ls Q hQ C hr hini hl h
  have hl : lv_has ls 4 [(0, .ref u0), (1, .int u1), (2, .int u2)] := hl
  obtain ⟨hx, hb, hml, hown, hts, hE0, hlk⟩ := id C
  have o := Fr.rf [] τ f
  refine lv_aload_n hx hb dX8_newX_0 rfl (lv_at hl 0 rfl) ?_
  refine t_getr (tq := 2) C h t hu0 (by decide) wf_1 rfl fl_X8_18 dX8_newX_1 (fun q1 tq1 => ?_)
  refine lv_astore_n (lv' := [(3, .ref q1), (0, .ref u0), (1, .int u1), (2, .int u2)]) hx hb dX8_newX_4 rfl hl (by decide) rfl (fun ls hl => ?_)
  refine lv_aload_n hx hb dX8_newX_5 rfl (lv_at hl 0 rfl) ?_
  refine lv_bipush (v := 7) hx hb dX8_newX_6 (by decide) ?_
  refine t_iald C h t tq1 (by decide) wf_2 (by unfold vp_in; decide) dX8_newX_8 (fun z2 iz2 => ?_)
  refine lv_aload_n hx hb dX8_newX_9 rfl (lv_at hl 0 rfl) ?_
  refine lv_bipush (v := 6) hx hb dX8_newX_10 (by decide) ?_
  refine t_iald C h t tq1 (by decide) wf_2 (by unfold vp_in; decide) dX8_newX_12 (fun z3 iz3 => ?_)
  refine lv_aload_n hx hb dX8_newX_13 rfl (lv_at hl 0 rfl) ?_
  refine lv_iconst (v := 5) hx hb dX8_newX_14 (by decide) ?_
  refine t_iald C h t tq1 (by decide) wf_2 (by unfold vp_in; decide) dX8_newX_15 (fun z4 iz4 => ?_)
  refine lv_iload_n hx hb dX8_newX_16 rfl (lv_at hl 3 rfl) ?_
  refine k_i (r_S C h hl (As := [.int z2, .int z3, .int z4, .int u2]) (rest := []) (s_X8_mixed l D G b0 τ f t z2 (iv_w iz2 (by decide)) z3 (iv_w iz3 (by decide)) z4 (iv_w iz4 (by decide)) u2 hu2) mk_X8_mixed w_947 w_948 w_949 ⟨Nat.le_of_ble_eq_true rfl, Nat.le_of_ble_eq_true rfl⟩ rfl (Nat.le_of_ble_eq_true rfl) ⟨Nat.le_of_ble_eq_true rfl, Nat.le_of_ble_eq_true rfl⟩ rfl dX8_newX_17) h (fun r5 f6 H locs p7 h => ?_)
  obtain ⟨ir5, tf6, ogf6⟩ := p7
  have egf6 := Fr.nil2 ogf6
  subst egf6
  refine lv_aload_n hx hb dX8_newX_20 rfl (lv_at hl 0 rfl) ?_
  refine lv_iconst (v := 1) hx hb dX8_newX_21 (by decide) ?_
  refine t_iald C h t tq1 (by decide) wf_2 (by unfold vp_in; decide) dX8_newX_22 (fun z8 iz8 => ?_)
  refine lv_aload_n hx hb dX8_newX_23 rfl (lv_at hl 0 rfl) ?_
  refine lv_iconst (v := 2) hx hb dX8_newX_24 (by decide) ?_
  refine t_iald C h t tq1 (by decide) wf_2 (by unfold vp_in; decide) dX8_newX_25 (fun z9 iz9 => ?_)
  refine lv_aload_n hx hb dX8_newX_26 rfl (lv_at hl 0 rfl) ?_
  refine lv_iconst (v := 3) hx hb dX8_newX_27 (by decide) ?_
  refine t_iald C h t tq1 (by decide) wf_2 (by unfold vp_in; decide) dX8_newX_28 (fun z10 iz10 => ?_)
  refine lv_iload_n hx hb dX8_newX_29 rfl (lv_at hl 3 rfl) ?_
  refine k_i (r_S C h hl (As := [.int z8, .int z9, .int z10, .int u2]) (rest := [.int r5]) (s_X8_mixed l D G b0 τ f t z8 (iv_w iz8 (by decide)) z9 (iv_w iz9 (by decide)) z10 (iv_w iz10 (by decide)) u2 hu2) mk_X8_mixed w_947 w_948 w_949 ⟨Nat.le_of_ble_eq_true rfl, Nat.le_of_ble_eq_true rfl⟩ rfl (Nat.le_of_ble_eq_true rfl) ⟨Nat.le_of_ble_eq_true rfl, Nat.le_of_ble_eq_true rfl⟩ rfl dX8_newX_30) h (fun r11 f12 H locs p13 h => ?_)
  obtain ⟨ir11, tf12, ogf12⟩ := p13
  have egf12 := Fr.nil2 ogf12
  subst egf12
  refine lv_iload_n hx hb dX8_newX_33 rfl (lv_at hl 2 rfl) ?_
  refine k_i (r_S C h hl (As := [.int r5, .int r11, .int u1]) (rest := []) (s_X8_quotient l D G b0 τ f t r5 ir5 r11 ir11 u1 hu1) mk_X8_quotient w_960 w_961 w_962 ⟨Nat.le_of_ble_eq_true rfl, Nat.le_of_ble_eq_true rfl⟩ rfl (Nat.le_of_ble_eq_true rfl) ⟨Nat.le_of_ble_eq_true rfl, Nat.le_of_ble_eq_true rfl⟩ rfl dX8_newX_34) h (fun r14 f15 H locs p16 h => ?_)
  obtain ⟨ir14, tf15, ogf15⟩ := p16
  have egf15 := Fr.nil2 ogf15
  subst egf15
  exact u_iret C h hr hQ (⟨ir14, t, o⟩) (Nat.le_of_ble_eq_true rfl) (Nat.le_of_ble_eq_true rfl) dX8_newX_37
abbrev rm_s_X8_newY : Room := { frames := 2, cells := 0, slots := 0, locals := 48 }
set_option maxRecDepth 100000 in
set_option maxHeartbeats 4000000 in
theorem s_X8_newY (l : Launch) (D : va_G) (G : Nat → Nat) (b0 : Nat) (τ : Nat → Nat) (f : hM) (t : TI G 9 τ f) (u0 : Nat) (hu0 : τ u0 = 1) (u1 : Int32) (hu1 : iv u1 (-2147483648) 2147483647) (u2 : Int32) (hu2 : iv u2 (-2147483648) 2147483647) : mI l yX8_newY cX8_newY 4 (.int) rm_s_X8_newY D G b0 f [.ref u0, .int u1, .int u2] (fun r f1 => iv r (-1000002) 1000002 ∧ TI G 9 τ f1 ∧ Fr [] τ f f1) := by
  refine met2 (own := RX8) (by decide) rfl (Nat.le_of_ble_eq_true rfl) ?_
  intro p e s m args below meth c ls Q hQ C hr hini hl h
  have hl : lv_has ls 4 [(0, .ref u0), (1, .int u1), (2, .int u2)] := hl
  obtain ⟨hx, hb, hml, hown, hts, hE0, hlk⟩ := id C
  have o := Fr.rf [] τ f
  refine lv_aload_n hx hb dX8_newY_0 rfl (lv_at hl 0 rfl) ?_
  refine t_getr (tq := 2) C h t hu0 (by decide) wf_1 rfl fl_X8_18 dX8_newY_1 (fun q1 tq1 => ?_)
  refine lv_astore_n (lv' := [(3, .ref q1), (0, .ref u0), (1, .int u1), (2, .int u2)]) hx hb dX8_newY_4 rfl hl (by decide) rfl (fun ls hl => ?_)
  refine lv_aload_n hx hb dX8_newY_5 rfl (lv_at hl 0 rfl) ?_
  refine lv_iconst (v := 3) hx hb dX8_newY_6 (by decide) ?_
  refine t_iald C h t tq1 (by decide) wf_2 (by unfold vp_in; decide) dX8_newY_7 (fun z2 iz2 => ?_)
  refine lv_aload_n hx hb dX8_newY_8 rfl (lv_at hl 0 rfl) ?_
  refine lv_iconst (v := 4) hx hb dX8_newY_9 (by decide) ?_
  refine t_iald C h t tq1 (by decide) wf_2 (by unfold vp_in; decide) dX8_newY_10 (fun z3 iz3 => ?_)
  refine lv_aload_n hx hb dX8_newY_11 rfl (lv_at hl 0 rfl) ?_
  refine lv_iconst (v := 5) hx hb dX8_newY_12 (by decide) ?_
  refine t_iald C h t tq1 (by decide) wf_2 (by unfold vp_in; decide) dX8_newY_13 (fun z4 iz4 => ?_)
  refine lv_iload_n hx hb dX8_newY_14 rfl (lv_at hl 2 rfl) ?_
  refine k_i (r_S C h hl (As := [.int z2, .int z3, .int z4, .int u1]) (rest := []) (s_X8_mixed l D G b0 τ f t z2 (iv_w iz2 (by decide)) z3 (iv_w iz3 (by decide)) z4 (iv_w iz4 (by decide)) u1 hu1) mk_X8_mixed w_947 w_948 w_949 ⟨Nat.le_of_ble_eq_true rfl, Nat.le_of_ble_eq_true rfl⟩ rfl (Nat.le_of_ble_eq_true rfl) ⟨Nat.le_of_ble_eq_true rfl, Nat.le_of_ble_eq_true rfl⟩ rfl dX8_newY_15) h (fun r5 f6 H locs p7 h => ?_)
  obtain ⟨ir5, tf6, ogf6⟩ := p7
  have egf6 := Fr.nil2 ogf6
  subst egf6
  refine lv_aload_n hx hb dX8_newY_18 rfl (lv_at hl 0 rfl) ?_
  refine lv_iconst (v := 1) hx hb dX8_newY_19 (by decide) ?_
  refine t_iald C h t tq1 (by decide) wf_2 (by unfold vp_in; decide) dX8_newY_20 (fun z8 iz8 => ?_)
  refine lv_aload_n hx hb dX8_newY_21 rfl (lv_at hl 0 rfl) ?_
  refine lv_iconst (v := 0) hx hb dX8_newY_22 (by decide) ?_
  refine t_iald C h t tq1 (by decide) wf_2 (by unfold vp_in; decide) dX8_newY_23 (fun z9 iz9 => ?_)
  refine lv_aload_n hx hb dX8_newY_24 rfl (lv_at hl 0 rfl) ?_
  refine lv_bipush (v := 7) hx hb dX8_newY_25 (by decide) ?_
  refine t_iald C h t tq1 (by decide) wf_2 (by unfold vp_in; decide) dX8_newY_27 (fun z10 iz10 => ?_)
  refine lv_iload_n hx hb dX8_newY_28 rfl (lv_at hl 2 rfl) ?_
  refine k_i (r_S C h hl (As := [.int z8, .int z9, .int z10, .int u1]) (rest := [.int r5]) (s_X8_mixed l D G b0 τ f t z8 (iv_w iz8 (by decide)) z9 (iv_w iz9 (by decide)) z10 (iv_w iz10 (by decide)) u1 hu1) mk_X8_mixed w_947 w_948 w_949 ⟨Nat.le_of_ble_eq_true rfl, Nat.le_of_ble_eq_true rfl⟩ rfl (Nat.le_of_ble_eq_true rfl) ⟨Nat.le_of_ble_eq_true rfl, Nat.le_of_ble_eq_true rfl⟩ rfl dX8_newY_29) h (fun r11 f12 H locs p13 h => ?_)
  obtain ⟨ir11, tf12, ogf12⟩ := p13
  have egf12 := Fr.nil2 ogf12
  subst egf12
  refine lv_iload_n hx hb dX8_newY_32 rfl (lv_at hl 3 rfl) ?_
  refine k_i (r_S C h hl (As := [.int r5, .int r11, .int u2]) (rest := []) (s_X8_quotient l D G b0 τ f t r5 ir5 r11 ir11 u2 hu2) mk_X8_quotient w_960 w_961 w_962 ⟨Nat.le_of_ble_eq_true rfl, Nat.le_of_ble_eq_true rfl⟩ rfl (Nat.le_of_ble_eq_true rfl) ⟨Nat.le_of_ble_eq_true rfl, Nat.le_of_ble_eq_true rfl⟩ rfl dX8_newY_33) h (fun r14 f15 H locs p16 h => ?_)
  obtain ⟨ir14, tf15, ogf15⟩ := p16
  have egf15 := Fr.nil2 ogf15
  subst egf15
  exact u_iret C h hr hQ (⟨ir14, t, o⟩) (Nat.le_of_ble_eq_true rfl) (Nat.le_of_ble_eq_true rfl) dX8_newY_36
abbrev rm_s_X8_follow : Room := { frames := 3, cells := 0, slots := 0, locals := 71 }
set_option maxRecDepth 100000 in
set_option maxHeartbeats 4000000 in
theorem s_X8_follow (l : Launch) (D : va_G) (G : Nat → Nat) (b0 : Nat) (τ : Nat → Nat) (f : hM) (t : TI G 9 τ f) (u0 : Nat) (hu0 : τ u0 = 35) (u1 : Nat) (hu1 : τ u1 = 1) (u2 : Int32) (hu2 : iv u2 (-2147483648) 2147483647) (u3 : Int32) (hu3 : iv u3 (-2147483648) 2147483647) : mI l yX8_follow cX8_follow 7 (.int) rm_s_X8_follow D G b0 f [.ref u0, .ref u1, .int u2, .int u3] (fun r f1 => iv r (-1) 40 ∧ TI G 9 τ f1 ∧ Fr [36, 80] τ f f1) := by
  refine met2 (own := RX8) (by decide) rfl (Nat.le_of_ble_eq_true rfl) ?_
  intro p e s m args below meth c ls Q hQ C hr hini hl h
  have hl : lv_has ls 7 [(0, .ref u0), (1, .ref u1), (2, .int u2), (3, .int u3)] := hl
  obtain ⟨hx, hb, hml, hown, hts, hE0, hlk⟩ := id C
  have o := Fr.rf [36, 80] τ f
  have L9 : ∀ (n9 : Nat) (ls : Array Slot) (f_9 : hM) (H : Heap) (locs : List Loc) (v9_4 : Int32) (v9_5 : Int32) (v9_6 : Int32), 41 - v9_6.toInt < (n9 : Int) → lv_has ls 7 [(0, .ref u0), (1, .ref u1), (2, .int u2), (3, .int u3), (4, .int v9_4), (5, .int v9_5), (6, .int v9_6)] → hw D b0 s.heap f_9 H locs → TI G 9 τ f_9 → Fr [36, 80] τ f f_9 → iv v9_4 (-2147483648) 2147483647 → iv v9_5 (-2147483648) 2147483647 → iv v9_6 0 41 → v9_6.toInt % 2 = 0 → W p l e rm_s_X8_follow s m args below meth c H locs 0 0 Q (F0 m 9 ls []) := by
    intro n9
    induction n9 with
    | zero => intro ls f_9 H locs v9_4 v9_5 v9_6 hm9 hl h t_9 o_9 iv9_4 iv9_5 iv9_6 hv9_0; exact absurd hm9 (by omega)
    | succ n9 ih9 =>
      intro ls f_9 H locs v9_4 v9_5 v9_6 hm9 hl h t_9 o_9 iv9_4 iv9_5 iv9_6 hv9_0
      refine lv_iload hx hb dX8_follow_9 (lv_at hl 6 rfl) ?_
      refine lv_bipush (v := 40) hx hb dX8_follow_11 (by decide) ?_
      refine lv_icmp_ge (tgt := 115) hx hb dX8_follow_13 (by decide) (fun c1 => ?_) (fun c1 => ?_)
      · have c2 : 40 ≤ v9_6.toInt := Int32.le_iff_toInt_le.mp c1
        have i3 : iv v9_6 40 41 := iv_Er c2 (iv_k (x := 40) (k := 40) rfl) iv9_6 (by decide)
        refine lv_iconst (v := -1) hx hb dX8_follow_115 (by decide) ?_
        exact u_iret C h hr hQ (⟨⟨by decide, by decide⟩, t_9, o_9⟩) (Nat.le_of_ble_eq_true rfl) (Nat.le_of_ble_eq_true rfl) dX8_follow_116
      · have c4 : v9_6.toInt < 40 := Int32.lt_iff_toInt_lt.mp (iv_nle c1)
        have i5 : iv v9_6 0 39 := iv_Ll c4 iv9_6 (iv_k (x := 40) (k := 40) rfl) (by decide)
        refine lv_aload_n hx hb dX8_follow_16 rfl (lv_at hl 0 rfl) ?_
        refine t_getr (tq := 36) C h t_9 hu0 (by decide) wf_35 rfl fl_X8_11 dX8_follow_17 (fun q6 tq6 => ?_)
        refine lv_iload hx hb dX8_follow_20 (lv_at hl 6 rfl) ?_
        refine lv_iload hx hb dX8_follow_22 (lv_at hl 4 rfl) ?_
        refine t_iast C h t_9 o_9 tq6 (by decide) (by decide) wf_36 fw_36 (iv_in i5 (by decide)) iv9_4 dX8_follow_24 (fun f7 H locs h tf7 of7 hq => ?_)
        refine lv_aload_n hx hb dX8_follow_25 rfl (lv_at hl 0 rfl) ?_
        refine t_getr (tq := 80) C h tf7 hu0 (by decide) wf_35 rfl fl_X8_15 dX8_follow_26 (fun q8 tq8 => ?_)
        refine lv_iload hx hb dX8_follow_29 (lv_at hl 6 rfl) ?_
        refine lv_iload hx hb dX8_follow_31 (lv_at hl 5 rfl) ?_
        refine t_iast C h tf7 of7 tq8 (by decide) (by decide) wf_80 fw_80 (iv_in i5 (by decide)) iv9_5 dX8_follow_33 (fun f9 H locs h tf9 of9 hq => ?_)
        refine lv_aload_n hx hb dX8_follow_34 rfl (lv_at hl 1 rfl) ?_
        refine lv_iload hx hb dX8_follow_35 (lv_at hl 4 rfl) ?_
        refine lv_iload hx hb dX8_follow_37 (lv_at hl 5 rfl) ?_
        refine k_i (r_S C h hl (As := [.ref u1, .int v9_4, .int v9_5]) (rest := []) (s_X8_newX l D G b0 τ f9 tf9 u1 hu1 v9_4 iv9_4 v9_5 iv9_5) mk_X8_newX w_974 w_958 w_959 ⟨Nat.le_of_ble_eq_true rfl, Nat.le_of_ble_eq_true rfl⟩ rfl (Nat.le_of_ble_eq_true rfl) ⟨Nat.le_of_ble_eq_true rfl, Nat.le_of_ble_eq_true rfl⟩ rfl dX8_follow_39) h (fun r10 f11 H locs p12 h => ?_)
        obtain ⟨ir10, tf11, ogf11⟩ := p12
        have egf11 := Fr.nil2 ogf11
        subst egf11
        refine lv_istore (lv' := [(4, .int r10), (0, .ref u0), (1, .ref u1), (2, .int u2), (3, .int u3), (5, .int v9_5), (6, .int v9_6)]) hx hb dX8_follow_42 hl (by decide) rfl (fun ls hl => ?_)
        refine lv_iload hx hb dX8_follow_44 (lv_at hl 0 rfl) ?_
        refine lv_iconst (v := -1) hx hb dX8_follow_46 (by decide) ?_
        refine lv_icmp_ne (tgt := 52) hx hb dX8_follow_47 (by decide) (fun c13 => ?_) (fun c13 => ?_)
        · have c14 : r10.toInt ≠ (-1) := fun z_ => c13 (Int32.toInt_inj.mp z_)
          refine lv_aload_n hx hb dX8_follow_52 rfl (lv_at hl 1 rfl) ?_
          refine t_getr (tq := 36) C h tf9 hu0 (by decide) wf_35 rfl fl_X8_11 dX8_follow_53 (fun q17 tq17 => ?_)
          refine lv_iload hx hb dX8_follow_56 (lv_at hl 6 rfl) ?_
          refine lv_iconst (v := 1) hx hb dX8_follow_58 (by decide) ?_
          refine i_addk hx hb dX8_follow_59 i5 (k := 1) rfl (lo := 1) (hi := 40) (by decide) (fun z18 ez18 mz18 iz18 => ?_)
          refine lv_iload hx hb dX8_follow_60 (lv_at hl 0 rfl) ?_
          refine t_iast C h tf9 of9 tq17 (by decide) (by decide) wf_36 fw_36 (ix_o (by omega)) (iv_w ir10 (by decide)) dX8_follow_62 (fun f19 H locs h tf19 of19 hq => ?_)
          refine lv_aload_n hx hb dX8_follow_63 rfl (lv_at hl 1 rfl) ?_
          refine t_getr (tq := 80) C h tf19 hu0 (by decide) wf_35 rfl fl_X8_15 dX8_follow_64 (fun q20 tq20 => ?_)
          refine lv_iload hx hb dX8_follow_67 (lv_at hl 6 rfl) ?_
          refine lv_iconst (v := 1) hx hb dX8_follow_69 (by decide) ?_
          refine i_addk hx hb dX8_follow_70 i5 (k := 1) rfl (lo := 1) (hi := 40) (by decide) (fun z21 ez21 mz21 iz21 => ?_)
          refine lv_iload hx hb dX8_follow_71 (lv_at hl 5 rfl) ?_
          refine t_iast C h tf19 of19 tq20 (by decide) (by decide) wf_80 fw_80 (ix_o (by omega)) iv9_5 dX8_follow_73 (fun f22 H locs h tf22 of22 hq => ?_)
          refine lv_aload_n hx hb dX8_follow_74 rfl (lv_at hl 2 rfl) ?_
          refine lv_iload hx hb dX8_follow_75 (lv_at hl 0 rfl) ?_
          refine lv_iload hx hb dX8_follow_77 (lv_at hl 5 rfl) ?_
          refine k_i (r_S C h hl (As := [.ref u1, .int r10, .int v9_5]) (rest := []) (s_X8_newY l D G b0 τ f22 tf22 u1 hu1 r10 (iv_w ir10 (by decide)) v9_5 iv9_5) mk_X8_newY w_975 w_964 w_965 ⟨Nat.le_of_ble_eq_true rfl, Nat.le_of_ble_eq_true rfl⟩ rfl (Nat.le_of_ble_eq_true rfl) ⟨Nat.le_of_ble_eq_true rfl, Nat.le_of_ble_eq_true rfl⟩ rfl dX8_follow_79) h (fun r23 f24 H locs p25 h => ?_)
          obtain ⟨ir23, tf24, ogf24⟩ := p25
          have egf24 := Fr.nil2 ogf24
          subst egf24
          refine lv_istore (lv' := [(5, .int r23), (4, .int r10), (0, .ref u0), (1, .ref u1), (2, .int u2), (3, .int u3), (6, .int v9_6)]) hx hb dX8_follow_82 hl (by decide) rfl (fun ls hl => ?_)
          refine lv_iload hx hb dX8_follow_84 (lv_at hl 0 rfl) ?_
          refine lv_iconst (v := -1) hx hb dX8_follow_86 (by decide) ?_
          refine lv_icmp_ne (tgt := 92) hx hb dX8_follow_87 (by decide) (fun c26 => ?_) (fun c26 => ?_)
          · have c27 : r23.toInt ≠ (-1) := fun z_ => c26 (Int32.toInt_inj.mp z_)
            refine lv_iload hx hb dX8_follow_92 (lv_at hl 1 rfl) ?_
            refine lv_iload_n hx hb dX8_follow_94 rfl (lv_at hl 4 rfl) ?_
            refine lv_icmp_ne (tgt := 109) hx hb dX8_follow_95 (by decide) (fun c30 => ?_) (fun c30 => ?_)
            · have c31 : r10.toInt ≠ u2.toInt := fun z_ => c30 (Int32.toInt_inj.mp z_)
              refine i_inc hx hb dX8_follow_109 hl (k := 6) rfl i5 rfl (lo := 2) (hi := 41) (by decide) (by decide) (lv' := fun v => [(6, .int v), (5, .int r23), (4, .int r10), (0, .ref u0), (1, .ref u1), (2, .int u2), (3, .int u3)]) (fun _ => rfl) (fun z34 ls ez34 mz34 iz34 hl => ?_)
              refine lv_goto (tgt := 9) hx hb dX8_follow_112 (by decide) ?_
              exact ih9 ls f22 H locs r10 r23 z34 (show 41 - z34.toInt < _ by omega) (lv_cons hl 3 rfl (lv_cons hl 4 rfl (lv_cons hl 5 rfl (lv_cons hl 6 rfl (lv_cons hl 2 rfl (lv_cons hl 1 rfl (lv_cons hl 0 rfl (lv_nil hl)))))))) h tf22 of22 (iv_w ir10 (by decide)) (iv_w ir23 (by decide)) (iv_w iz34 (by decide)) (show z34.toInt % 2 = 0 by omega)
            · have c32 : r10.toInt = u2.toInt := congrArg Int32.toInt c30
              have i33 : iv u2 (-1000002) 1000002 := iv_Q c32.symm hu2 ir10 (by decide)
              refine lv_iload hx hb dX8_follow_98 (lv_at hl 0 rfl) ?_
              refine lv_iload_n hx hb dX8_follow_100 rfl (lv_at hl 5 rfl) ?_
              refine lv_icmp_ne (tgt := 109) hx hb dX8_follow_101 (by decide) (fun c35 => ?_) (fun c35 => ?_)
              · have c36 : r23.toInt ≠ u3.toInt := fun z_ => c35 (Int32.toInt_inj.mp z_)
                refine i_inc hx hb dX8_follow_109 hl (k := 6) rfl i5 rfl (lo := 2) (hi := 41) (by decide) (by decide) (lv' := fun v => [(6, .int v), (5, .int r23), (4, .int r10), (0, .ref u0), (1, .ref u1), (2, .int u2), (3, .int u3)]) (fun _ => rfl) (fun z39 ls ez39 mz39 iz39 hl => ?_)
                refine lv_goto (tgt := 9) hx hb dX8_follow_112 (by decide) ?_
                exact ih9 ls f22 H locs r10 r23 z39 (show 41 - z39.toInt < _ by omega) (lv_cons hl 3 rfl (lv_cons hl 4 rfl (lv_cons hl 5 rfl (lv_cons hl 6 rfl (lv_cons hl 2 rfl (lv_cons hl 1 rfl (lv_cons hl 0 rfl (lv_nil hl)))))))) h tf22 of22 (iv_w ir10 (by decide)) (iv_w ir23 (by decide)) (iv_w iz39 (by decide)) (show z39.toInt % 2 = 0 by omega)
              · have c37 : r23.toInt = u3.toInt := congrArg Int32.toInt c35
                have i38 : iv u3 (-1000002) 1000002 := iv_Q c37.symm hu3 ir23 (by decide)
                refine lv_iload hx hb dX8_follow_104 (lv_at hl 6 rfl) ?_
                refine lv_iconst (v := 2) hx hb dX8_follow_106 (by decide) ?_
                refine i_addk hx hb dX8_follow_107 i5 (k := 2) rfl (lo := 2) (hi := 41) (by decide) (fun z40 ez40 mz40 iz40 => ?_)
                exact u_iret C h hr hQ (⟨(show iv z40 (-1) 40 from by omega), tf22, of22⟩) (Nat.le_of_ble_eq_true rfl) (Nat.le_of_ble_eq_true rfl) dX8_follow_108
          · have c28 : r23.toInt = (-1) := congrArg Int32.toInt c26
            have i29 : iv r23 (-1) (-1) := iv_Q c28 ir23 (iv_k (x := (-1)) (k := (-1)) rfl) (by decide)
            refine lv_iconst (v := -1) hx hb dX8_follow_90 (by decide) ?_
            exact u_iret C h hr hQ (⟨⟨by decide, by decide⟩, tf22, of22⟩) (Nat.le_of_ble_eq_true rfl) (Nat.le_of_ble_eq_true rfl) dX8_follow_91
        · have c15 : r10.toInt = (-1) := congrArg Int32.toInt c13
          have i16 : iv r10 (-1) (-1) := iv_Q c15 ir10 (iv_k (x := (-1)) (k := (-1)) rfl) (by decide)
          refine lv_iconst (v := -1) hx hb dX8_follow_50 (by decide) ?_
          exact u_iret C h hr hQ (⟨⟨by decide, by decide⟩, tf9, of9⟩) (Nat.le_of_ble_eq_true rfl) (Nat.le_of_ble_eq_true rfl) dX8_follow_51
  refine lv_iload_n hx hb dX8_follow_0 rfl (lv_at hl 2 rfl) ?_
  refine lv_istore (lv' := [(4, .int u2), (0, .ref u0), (1, .ref u1), (2, .int u2), (3, .int u3)]) hx hb dX8_follow_1 hl (by decide) rfl (fun ls hl => ?_)
  refine lv_iload_n hx hb dX8_follow_3 rfl (lv_at hl 4 rfl) ?_
  refine lv_istore (lv' := [(5, .int u3), (4, .int u2), (0, .ref u0), (1, .ref u1), (2, .int u2), (3, .int u3)]) hx hb dX8_follow_4 hl (by decide) rfl (fun ls hl => ?_)
  refine lv_iconst (v := 0) hx hb dX8_follow_6 (by decide) ?_
  refine lv_istore (lv' := [(6, .int 0), (5, .int u3), (4, .int u2), (0, .ref u0), (1, .ref u1), (2, .int u2), (3, .int u3)]) hx hb dX8_follow_7 hl (by decide) rfl (fun ls hl => ?_)
  exact L9 42 ls f s.heap [] u2 u3 0 (by decide) (lv_cons hl 3 rfl (lv_cons hl 4 rfl (lv_cons hl 5 rfl (lv_cons hl 6 rfl (lv_cons hl 2 rfl (lv_cons hl 1 rfl (lv_cons hl 0 rfl (lv_nil hl)))))))) h t o hu2 hu3 ⟨by decide, by decide⟩ (show 0 % 2 = 0 by omega)
abbrev rm_s_X8_greatest : Room := { frames := 4, cells := 0, slots := 0, locals := 97 }
set_option maxRecDepth 100000 in
set_option maxHeartbeats 4000000 in
theorem s_X8_greatest (l : Launch) (D : va_G) (G : Nat → Nat) (b0 : Nat) (τ : Nat → Nat) (f : hM) (t : TI G 9 τ f) (u0 : Nat) (hu0 : τ u0 = 35) (u1 : Nat) (hu1 : τ u1 = 1) : mI l yX8_greatest cX8_greatest 5 (.int) rm_s_X8_greatest D G b0 f [.ref u0, .ref u1] (fun r f1 => iv r (-1) 40 ∧ TI G 9 τ f1 ∧ Fr [36, 80] τ f f1) := by
  refine met2 (own := RX8) (by decide) rfl (Nat.le_of_ble_eq_true rfl) ?_
  intro p e s m args below meth c ls Q hQ C hr hini hl h
  have hl : lv_has ls 5 [(0, .ref u0), (1, .ref u1)] := hl
  obtain ⟨hx, hb, hml, hown, hts, hE0, hlk⟩ := id C
  have o := Fr.rf [36, 80] τ f
  have L25 : ∀ (ls : Array Slot) (f_25 : hM) (H : Heap) (locs : List Loc) (v25_2 : Int32) (y25_0 : Int32), lv_has ls 5 [(0, .ref u0), (1, .ref u1), (2, .int v25_2)] → hw D b0 s.heap f_25 H locs → TI G 9 τ f_25 → Fr [36, 80] τ f f_25 → iv v25_2 (-1) 40 → iv y25_0 (-1) 40 → W p l e rm_s_X8_greatest s m args below meth c H locs 0 0 Q (F0 m 25 ls [.int y25_0]) := by
    intro ls f_25 H locs v25_2 y25_0 hl h t_25 o_25 iv25_2 iy25_0
    refine lv_istore_n (lv' := [(3, .int y25_0), (0, .ref u0), (1, .ref u1), (2, .int v25_2)]) hx hb dX8_greatest_25 rfl hl (by decide) rfl (fun ls hl => ?_)
    refine lv_iload_n hx hb dX8_greatest_26 rfl (lv_at hl 0 rfl) ?_
    refine lv_iconst (v := -1) hx hb dX8_greatest_27 (by decide) ?_
    refine lv_icmp_ne (tgt := 35) hx hb dX8_greatest_28 (by decide) (fun c1 => ?_) (fun c1 => ?_)
    · have c2 : y25_0.toInt ≠ (-1) := fun z_ => c1 (Int32.toInt_inj.mp z_)
      have i3 : iv y25_0 0 40 := iv_Nl c2 iy25_0 (by decide)
      refine lv_aload_n hx hb dX8_greatest_35 rfl (lv_at hl 1 rfl) ?_
      refine lv_aload_n hx hb dX8_greatest_36 rfl (lv_at hl 2 rfl) ?_
      refine lv_bipush (v := 11) hx hb dX8_greatest_37 (by decide) ?_
      refine lv_bipush (v := 13) hx hb dX8_greatest_39 (by decide) ?_
      obtain ⟨_, r6⟩ := t_rec t_25 hu0 (by decide) wf_35
      refine k_i (r_V C h hl (As := [.ref u1, .int 11, .int 13]) (rest := []) (s_X8_follow l D G b0 τ f_25 t_25 u0 hu0 u1 hu1 11 (iv_w (iv_k (x := 11) (k := 11) rfl) (by decide)) 13 (iv_w (iv_k (x := 13) (k := 13) rfl) (by decide))) r6 (Cn := RX8) (T := TX8) (N := 2) rfl rfl mk_X8_follow w_984 w_971 w_972 w_973 ⟨Nat.le_of_ble_eq_true rfl, Nat.le_of_ble_eq_true rfl⟩ rfl (Nat.le_of_ble_eq_true rfl) ⟨Nat.le_of_ble_eq_true rfl, Nat.le_of_ble_eq_true rfl⟩ rfl dX8_greatest_41) h (fun r7 f8 H locs p9 h => ?_)
      obtain ⟨ir7, tf8, ogf8⟩ := p9
      have of8 : Fr [36, 80] τ f f8 := Fr.tr o_25 ogf8 (by decide) (by decide)
      refine lv_istore (lv' := [(4, .int r7), (3, .int y25_0), (0, .ref u0), (1, .ref u1), (2, .int v25_2)]) hx hb dX8_greatest_44 hl (by decide) rfl (fun ls hl => ?_)
      refine lv_iload hx hb dX8_greatest_46 (lv_at hl 0 rfl) ?_
      refine lv_iconst (v := -1) hx hb dX8_greatest_48 (by decide) ?_
      refine lv_icmp_ne (tgt := 56) hx hb dX8_greatest_49 (by decide) (fun c10 => ?_) (fun c10 => ?_)
      · have c11 : r7.toInt ≠ (-1) := fun z_ => c10 (Int32.toInt_inj.mp z_)
        have i12 : iv r7 0 40 := iv_Nl c11 ir7 (by decide)
        refine lv_iload_n hx hb dX8_greatest_56 rfl (lv_at hl 4 rfl) ?_
        refine lv_iload_n hx hb dX8_greatest_57 rfl (lv_at hl 1 rfl) ?_
        refine lv_iload hx hb dX8_greatest_58 (lv_at hl 0 rfl) ?_
        refine va_mmax hx hb (hml.trans hl.1.symm) hown (hts _ w_985) (hts _ w_453) (hts _ w_112) (hts _ w_454) (Nat.le_of_ble_eq_true rfl) (Nat.le_of_ble_eq_true rfl) (Nat.le_of_ble_eq_true rfl) (Nat.le_of_ble_eq_true rfl) dX8_greatest_60 (i_max i3 i12 (lo := 0) (hi := 40) (by decide) (fun z15 mz15 iz15 => ?_))
        refine va_mmax hx hb (hml.trans hl.1.symm) hown (hts _ w_985) (hts _ w_453) (hts _ w_112) (hts _ w_454) (Nat.le_of_ble_eq_true rfl) (Nat.le_of_ble_eq_true rfl) (Nat.le_of_ble_eq_true rfl) (Nat.le_of_ble_eq_true rfl) dX8_greatest_63 (i_max iv25_2 iz15 (lo := 0) (hi := 40) (by decide) (fun z16 mz16 iz16 => ?_))
        exact u_iret C h hr hQ (⟨(iv_w iz16 (by decide)), tf8, of8⟩) (Nat.le_of_ble_eq_true rfl) (Nat.le_of_ble_eq_true rfl) dX8_greatest_66
      · have c13 : r7.toInt = (-1) := congrArg Int32.toInt c10
        have i14 : iv r7 (-1) (-1) := iv_Q c13 ir7 (iv_k (x := (-1)) (k := (-1)) rfl) (by decide)
        refine lv_iconst (v := -1) hx hb dX8_greatest_52 (by decide) ?_
        refine lv_goto (tgt := 66) hx hb dX8_greatest_53 (by decide) ?_
        exact u_iret C h hr hQ (⟨⟨by decide, by decide⟩, tf8, of8⟩) (Nat.le_of_ble_eq_true rfl) (Nat.le_of_ble_eq_true rfl) dX8_greatest_66
    · have c4 : y25_0.toInt = (-1) := congrArg Int32.toInt c1
      have i5 : iv y25_0 (-1) (-1) := iv_Q c4 iy25_0 (iv_k (x := (-1)) (k := (-1)) rfl) (by decide)
      refine lv_iconst (v := -1) hx hb dX8_greatest_31 (by decide) ?_
      refine lv_goto (tgt := 44) hx hb dX8_greatest_32 (by decide) ?_
      refine lv_istore (lv' := [(4, .int (-1)), (3, .int y25_0), (0, .ref u0), (1, .ref u1), (2, .int v25_2)]) hx hb dX8_greatest_44 hl (by decide) rfl (fun ls hl => ?_)
      refine lv_iload hx hb dX8_greatest_46 (lv_at hl 0 rfl) ?_
      refine lv_iconst (v := -1) hx hb dX8_greatest_48 (by decide) ?_
      refine lv_icmp_ne (tgt := 56) hx hb dX8_greatest_49 (by decide) (fun c17 => ?_) (fun c17 => ?_)
      · exact absurd c17 (by decide)
      · refine lv_iconst (v := -1) hx hb dX8_greatest_52 (by decide) ?_
        refine lv_goto (tgt := 66) hx hb dX8_greatest_53 (by decide) ?_
        exact u_iret C h hr hQ (⟨⟨by decide, by decide⟩, t_25, o_25⟩) (Nat.le_of_ble_eq_true rfl) (Nat.le_of_ble_eq_true rfl) dX8_greatest_66
  refine lv_aload_n hx hb dX8_greatest_0 rfl (lv_at hl 0 rfl) ?_
  refine lv_aload_n hx hb dX8_greatest_1 rfl (lv_at hl 1 rfl) ?_
  refine lv_iconst (v := 2) hx hb dX8_greatest_2 (by decide) ?_
  refine lv_iconst (v := 3) hx hb dX8_greatest_3 (by decide) ?_
  obtain ⟨_, r20⟩ := t_rec t hu0 (by decide) wf_35
  refine k_i (r_V C h hl (As := [.ref u1, .int 2, .int 3]) (rest := []) (s_X8_follow l D G b0 τ f t u0 hu0 u1 hu1 2 (iv_w (iv_k (x := 2) (k := 2) rfl) (by decide)) 3 (iv_w (iv_k (x := 3) (k := 3) rfl) (by decide))) r20 (Cn := RX8) (T := TX8) (N := 2) rfl rfl mk_X8_follow w_984 w_971 w_972 w_973 ⟨Nat.le_of_ble_eq_true rfl, Nat.le_of_ble_eq_true rfl⟩ rfl (Nat.le_of_ble_eq_true rfl) ⟨Nat.le_of_ble_eq_true rfl, Nat.le_of_ble_eq_true rfl⟩ rfl dX8_greatest_4) h (fun r21 f22 H locs p23 h => ?_)
  obtain ⟨ir21, tf22, ogf22⟩ := p23
  have of22 : Fr [36, 80] τ f f22 := Fr.tr o ogf22 (by decide) (by decide)
  refine lv_istore_n (lv' := [(2, .int r21), (0, .ref u0), (1, .ref u1)]) hx hb dX8_greatest_7 rfl hl (by decide) rfl (fun ls hl => ?_)
  refine lv_iload_n hx hb dX8_greatest_8 rfl (lv_at hl 0 rfl) ?_
  refine lv_iconst (v := -1) hx hb dX8_greatest_9 (by decide) ?_
  refine lv_icmp_ne (tgt := 17) hx hb dX8_greatest_10 (by decide) (fun c24 => ?_) (fun c24 => ?_)
  · have c25 : r21.toInt ≠ (-1) := fun z_ => c24 (Int32.toInt_inj.mp z_)
    have i26 : iv r21 0 40 := iv_Nl c25 ir21 (by decide)
    refine lv_aload_n hx hb dX8_greatest_17 rfl (lv_at hl 1 rfl) ?_
    refine lv_aload_n hx hb dX8_greatest_18 rfl (lv_at hl 2 rfl) ?_
    refine lv_iconst (v := 5) hx hb dX8_greatest_19 (by decide) ?_
    refine lv_bipush (v := 7) hx hb dX8_greatest_20 (by decide) ?_
    obtain ⟨_, r29⟩ := t_rec tf22 hu0 (by decide) wf_35
    refine k_i (r_V C h hl (As := [.ref u1, .int 5, .int 7]) (rest := []) (s_X8_follow l D G b0 τ f22 tf22 u0 hu0 u1 hu1 5 (iv_w (iv_k (x := 5) (k := 5) rfl) (by decide)) 7 (iv_w (iv_k (x := 7) (k := 7) rfl) (by decide))) r29 (Cn := RX8) (T := TX8) (N := 2) rfl rfl mk_X8_follow w_984 w_971 w_972 w_973 ⟨Nat.le_of_ble_eq_true rfl, Nat.le_of_ble_eq_true rfl⟩ rfl (Nat.le_of_ble_eq_true rfl) ⟨Nat.le_of_ble_eq_true rfl, Nat.le_of_ble_eq_true rfl⟩ rfl dX8_greatest_22) h (fun r30 f31 H locs p32 h => ?_)
    obtain ⟨ir30, tf31, ogf31⟩ := p32
    have of31 : Fr [36, 80] τ f f31 := Fr.tr of22 ogf31 (by decide) (by decide)
    exact L25 ls f31 H locs r21 r30 (lv_cons hl 1 rfl (lv_cons hl 2 rfl (lv_cons hl 0 rfl (lv_nil hl)))) h tf31 of31 (iv_w i26 (by decide)) ir30
  · have c27 : r21.toInt = (-1) := congrArg Int32.toInt c24
    have i28 : iv r21 (-1) (-1) := iv_Q c27 ir21 (iv_k (x := (-1)) (k := (-1)) rfl) (by decide)
    refine lv_iconst (v := -1) hx hb dX8_greatest_13 (by decide) ?_
    refine lv_goto (tgt := 25) hx hb dX8_greatest_14 (by decide) ?_
    exact L25 ls f22 H locs r21 (-1) (lv_cons hl 1 rfl (lv_cons hl 2 rfl (lv_cons hl 0 rfl (lv_nil hl)))) h tf22 of22 (iv_w i28 (by decide)) ⟨by decide, by decide⟩
abbrev rm_s_X8_alternating : Room := { frames := 1, cells := 0, slots := 0, locals := 23 }
set_option maxRecDepth 100000 in
set_option maxHeartbeats 4000000 in
theorem s_X8_alternating (l : Launch) (D : va_G) (G : Nat → Nat) (b0 : Nat) (τ : Nat → Nat) (f : hM) (t : TI G 9 τ f) (u0 : Nat) (hu0 : τ u0 = 35) (u1 : Int32) (hu1 : iv u1 (-2147483648) 2147483647) : mI l yX8_alternating cX8_alternating 6 (.int) rm_s_X8_alternating D G b0 f [.ref u0, .int u1] (fun r f1 => iv r (-2147483648) 2147483647 ∧ TI G 9 τ f1 ∧ Fr [] τ f f1) := by
  refine met2 (own := RX8) (by decide) rfl (Nat.le_of_ble_eq_true rfl) ?_
  intro p e s m args below meth c ls Q hQ C hr hini hl h
  have hl : lv_has ls 6 [(0, .ref u0), (1, .int u1)] := hl
  obtain ⟨hx, hb, hml, hown, hts, hE0, hlk⟩ := id C
  have o := Fr.rf [] τ f
  have L5 : ∀ (n5 : Nat) (ls : Array Slot) (f_5 : hM) (H : Heap) (locs : List Loc) (v5_2 : Int64) (v5_4 : Int32), 40 - v5_4.toInt < (n5 : Int) → lv_has ls 6 [(0, .ref u0), (1, .int u1), (2, .long v5_2), (4, .int v5_4)] → hw D b0 s.heap f_5 H locs → TI G 9 τ f_5 → Fr [] τ f f_5 → iv v5_4 0 40 → W p l e rm_s_X8_alternating s m args below meth c H locs 0 0 Q (F0 m 5 ls []) := by
    intro n5
    induction n5 with
    | zero => intro ls f_5 H locs v5_2 v5_4 hm5 hl h t_5 o_5 iv5_4; exact absurd hm5 (by omega)
    | succ n5 ih5 =>
      intro ls f_5 H locs v5_2 v5_4 hm5 hl h t_5 o_5 iv5_4
      refine lv_iload hx hb dX8_alternating_5 (lv_at hl 3 rfl) ?_
      refine lv_iload_n hx hb dX8_alternating_7 rfl (lv_at hl 1 rfl) ?_
      refine lv_icmp_ge (tgt := 65) hx hb dX8_alternating_8 (by decide) (fun c1 => ?_) (fun c1 => ?_)
      · have c2 : u1.toInt ≤ v5_4.toInt := Int32.le_iff_toInt_le.mp c1
        have i3 : iv u1 (-2147483648) 40 := iv_El c2 hu1 iv5_4 (by decide)
        refine lv_lload_n hx hb dX8_alternating_65 rfl (lv_at hl 2 rfl) ?_
        refine k_i (r_SN C h hl (host := "QuarterWalks") (As := [.long v5_2]) (rest := []) (s_X10_residue l D G b0 τ f_5 t_5 v5_2) mk_X10_residue (by decide) w_741 w_742 ⟨Nat.le_of_ble_eq_true rfl, Nat.le_of_ble_eq_true rfl⟩ rfl (Nat.le_of_ble_eq_true rfl) ⟨Nat.le_of_ble_eq_true rfl, Nat.le_of_ble_eq_true rfl⟩ rfl dX8_alternating_66) h (fun r6 f7 H locs p8 h => ?_)
        obtain ⟨ir6, tf7, ogf7⟩ := p8
        have egf7 := Fr.nil2 ogf7
        subst egf7
        exact u_iret C h hr hQ (⟨ir6, t_5, o_5⟩) (Nat.le_of_ble_eq_true rfl) (Nat.le_of_ble_eq_true rfl) dX8_alternating_69
      · have c4 : v5_4.toInt < u1.toInt := Int32.lt_iff_toInt_lt.mp (iv_nle c1)
        have i5 : iv u1 1 2147483647 := iv_Lr c4 iv5_4 hu1 (by decide)
        refine lv_iload hx hb dX8_alternating_11 (lv_at hl 3 rfl) ?_
        refine lv_bipush (v := 40) hx hb dX8_alternating_13 (by decide) ?_
        refine lv_icmp_ge (tgt := 65) hx hb dX8_alternating_15 (by decide) (fun c9 => ?_) (fun c9 => ?_)
        · have c10 : 40 ≤ v5_4.toInt := Int32.le_iff_toInt_le.mp c9
          have i11 : iv v5_4 40 40 := iv_Er c10 (iv_k (x := 40) (k := 40) rfl) iv5_4 (by decide)
          refine lv_lload_n hx hb dX8_alternating_65 rfl (lv_at hl 2 rfl) ?_
          refine k_i (r_SN C h hl (host := "QuarterWalks") (As := [.long v5_2]) (rest := []) (s_X10_residue l D G b0 τ f_5 t_5 v5_2) mk_X10_residue (by decide) w_741 w_742 ⟨Nat.le_of_ble_eq_true rfl, Nat.le_of_ble_eq_true rfl⟩ rfl (Nat.le_of_ble_eq_true rfl) ⟨Nat.le_of_ble_eq_true rfl, Nat.le_of_ble_eq_true rfl⟩ rfl dX8_alternating_66) h (fun r14 f15 H locs p16 h => ?_)
          obtain ⟨ir14, tf15, ogf15⟩ := p16
          have egf15 := Fr.nil2 ogf15
          subst egf15
          exact u_iret C h hr hQ (⟨ir14, t_5, o_5⟩) (Nat.le_of_ble_eq_true rfl) (Nat.le_of_ble_eq_true rfl) dX8_alternating_69
        · have c12 : v5_4.toInt < 40 := Int32.lt_iff_toInt_lt.mp (iv_nle c9)
          have i13 : iv v5_4 0 39 := iv_Ll c12 iv5_4 (iv_k (x := 40) (k := 40) rfl) (by decide)
          refine lv_aload_n hx hb dX8_alternating_18 rfl (lv_at hl 0 rfl) ?_
          refine t_getr (tq := 36) C h t_5 hu0 (by decide) wf_35 rfl fl_X8_11 dX8_alternating_19 (fun q17 tq17 => ?_)
          refine lv_iload hx hb dX8_alternating_22 (lv_at hl 3 rfl) ?_
          refine t_iald C h t_5 tq17 (by decide) wf_36 (iv_in i13 (by decide)) dX8_alternating_24 (fun z18 iz18 => ?_)
          refine lv_i2l hx hb dX8_alternating_25 rfl (i_topL iz18 (fun w19 ew19 mw19 iw19 => ?_))
          refine lv_aload_n hx hb dX8_alternating_26 rfl (lv_at hl 0 rfl) ?_
          refine t_getr (tq := 80) C h t_5 hu0 (by decide) wf_35 rfl fl_X8_15 dX8_alternating_27 (fun q20 tq20 => ?_)
          refine lv_iload hx hb dX8_alternating_30 (lv_at hl 3 rfl) ?_
          refine t_iald C h t_5 tq20 (by decide) wf_80 (iv_in i13 (by decide)) dX8_alternating_32 (fun z21 iz21 => ?_)
          refine lv_i2l hx hb dX8_alternating_33 rfl (i_topL iz21 (fun w22 ew22 mw22 iw22 => ?_))
          refine k_i (r_SN C h hl (host := "QuarterWalks") (As := [.long w19, .long w22]) (rest := []) (s_X10_times l D G b0 τ f_5 t_5 w19 w22) mk_X10_times (by decide) w_807 w_808 ⟨Nat.le_of_ble_eq_true rfl, Nat.le_of_ble_eq_true rfl⟩ rfl (Nat.le_of_ble_eq_true rfl) ⟨Nat.le_of_ble_eq_true rfl, Nat.le_of_ble_eq_true rfl⟩ rfl dX8_alternating_34) h (fun r23 f24 H locs p25 h => ?_)
          obtain ⟨ir23, tf24, ogf24⟩ := p25
          have egf24 := Fr.nil2 ogf24
          subst egf24
          refine lv_istore (lv' := [(5, .int r23), (0, .ref u0), (1, .int u1), (2, .long v5_2), (4, .int v5_4)]) hx hb dX8_alternating_37 hl (by decide) rfl (fun ls hl => ?_)
          refine lv_lload_n hx hb dX8_alternating_39 rfl (lv_at hl 3 rfl) ?_
          refine lv_iload hx hb dX8_alternating_40 (lv_at hl 4 rfl) ?_
          refine lv_iconst (v := 2) hx hb dX8_alternating_42 (by decide) ?_
          refine lv_irem hx hb dX8_alternating_43 (by decide) (i_topm (P := fun q_ => q_ < Int32.toInt 2 ∧ q_ ≤ Int32.toInt v5_4) (iv_remm (iv_w i13 (by decide) : iv _ 0 39) (iv_k (x := 2) (k := 2) rfl) (by decide)) (fun z26 ez26 mz26 iz26 => ?_))
          refine lv_if_ne (tgt := 53) hx hb dX8_alternating_44 (by decide) (fun c27 => ?_) (fun c27 => ?_)
          · have c28 : z26.toInt ≠ 0 := fun z_ => c27 (Int32.toInt_inj.mp z_)
            have i29 : iv z26 1 1 := iv_Nl c28 iz26 (by decide)
            refine lv_iload hx hb dX8_alternating_53 (lv_at hl 0 rfl) ?_
            refine lv_ineg hx hb dX8_alternating_55 (i_topm (P := fun q_ => q_ = -Int32.toInt r23) (iv_negm ir23 (by decide)) (fun z32 ez32 mz32 iz32 => ?_))
            refine lv_i2l hx hb dX8_alternating_56 rfl (i_topL iz32 (fun w33 ew33 mw33 iw33 => ?_))
            refine lv_ladd hx hb dX8_alternating_57 (lv_topl (fun w34 ew34 => ?_))
            refine lv_lstore_n (lv' := [(2, .long w34), (5, .int r23), (0, .ref u0), (1, .int u1), (4, .int v5_4)]) hx hb dX8_alternating_58 rfl hl (by decide) rfl (fun ls hl => ?_)
            refine i_inc hx hb dX8_alternating_59 hl (k := 4) rfl i13 rfl (lo := 1) (hi := 40) (by decide) (by decide) (lv' := fun v => [(4, .int v), (2, .long w34), (5, .int r23), (0, .ref u0), (1, .int u1)]) (fun _ => rfl) (fun z35 ls ez35 mz35 iz35 hl => ?_)
            refine lv_goto (tgt := 5) hx hb dX8_alternating_62 (by decide) ?_
            exact ih5 ls f_5 H locs w34 z35 (show 40 - z35.toInt < _ by omega) (lv_cons hl 3 rfl (lv_cons hl 4 rfl (lv_cons hl 1 rfl (lv_cons hl 0 rfl (lv_nil hl))))) h t_5 o_5 (iv_w iz35 (by decide))
          · have c30 : z26.toInt = 0 := congrArg Int32.toInt c27
            have i31 : iv z26 0 0 := iv_Q c30 iz26 (iv_k (x := 0) (k := 0) rfl) (by decide)
            refine lv_iload hx hb dX8_alternating_47 (lv_at hl 0 rfl) ?_
            refine lv_i2l hx hb dX8_alternating_49 rfl (i_topL ir23 (fun w36 ew36 mw36 iw36 => ?_))
            refine lv_goto (tgt := 57) hx hb dX8_alternating_50 (by decide) ?_
            refine lv_ladd hx hb dX8_alternating_57 (lv_topl (fun w37 ew37 => ?_))
            refine lv_lstore_n (lv' := [(2, .long w37), (5, .int r23), (0, .ref u0), (1, .int u1), (4, .int v5_4)]) hx hb dX8_alternating_58 rfl hl (by decide) rfl (fun ls hl => ?_)
            refine i_inc hx hb dX8_alternating_59 hl (k := 4) rfl i13 rfl (lo := 1) (hi := 40) (by decide) (by decide) (lv' := fun v => [(4, .int v), (2, .long w37), (5, .int r23), (0, .ref u0), (1, .int u1)]) (fun _ => rfl) (fun z38 ls ez38 mz38 iz38 hl => ?_)
            refine lv_goto (tgt := 5) hx hb dX8_alternating_62 (by decide) ?_
            exact ih5 ls f_5 H locs w37 z38 (show 40 - z38.toInt < _ by omega) (lv_cons hl 3 rfl (lv_cons hl 4 rfl (lv_cons hl 1 rfl (lv_cons hl 0 rfl (lv_nil hl))))) h t_5 o_5 (iv_w iz38 (by decide))
  refine lv_lconst (v := 0) hx hb dX8_alternating_0 (by decide) ?_
  refine lv_lstore_n (lv' := [(2, .long 0), (0, .ref u0), (1, .int u1)]) hx hb dX8_alternating_1 rfl hl (by decide) rfl (fun ls hl => ?_)
  refine lv_iconst (v := 0) hx hb dX8_alternating_2 (by decide) ?_
  refine lv_istore (lv' := [(4, .int 0), (2, .long 0), (0, .ref u0), (1, .int u1)]) hx hb dX8_alternating_3 hl (by decide) rfl (fun ls hl => ?_)
  exact L5 41 ls f s.heap [] 0 0 (by decide) (lv_cons hl 2 rfl (lv_cons hl 3 rfl (lv_cons hl 1 rfl (lv_cons hl 0 rfl (lv_nil hl))))) h t o ⟨by decide, by decide⟩
abbrev rm_s_X4_shape : Room := { frames := 1, cells := 0, slots := 0, locals := 19 }
set_option maxRecDepth 100000 in
set_option maxHeartbeats 4000000 in
theorem s_X4_shape (l : Launch) (D : va_G) (G : Nat → Nat) (b0 : Nat) (τ : Nat → Nat) (f : hM) (t : TI G 9 τ f) (u0 : Nat) (hu0 : τ u0 = 40) (u1 : Int32) (hu1 : iv u1 (-2147483648) 2147483647) (u2 : Int32) (hu2 : iv u2 (-2147483648) 2147483647) : mV l yX4_shape cX4_shape 3 rm_s_X4_shape D G b0 f [.ref u0, .int u1, .int u2] (fun f1 => TI G 9 τ f1 ∧ Fr [40, 40002, 40003, 40004] τ f f1) := by
  refine met2 (own := RX4) (by decide) rfl (Nat.le_of_ble_eq_true rfl) ?_
  intro p e s m args below meth c ls Q hQ C hr hini hl h
  have hl : lv_has ls 3 [(0, .ref u0), (1, .int u1), (2, .int u2)] := hl
  obtain ⟨hx, hb, hml, hown, hts, hE0, hlk⟩ := id C
  have o := Fr.rf [40, 40002, 40003, 40004] τ f
  refine lv_aload_n hx hb dX4_shape_0 rfl (lv_at hl 0 rfl) ?_
  refine lv_iconst (v := 0) hx hb dX4_shape_1 (by decide) ?_
  refine lv_iload_n hx hb dX4_shape_2 rfl (lv_at hl 1 rfl) ?_
  refine lv_bipush (v := 32) hx hb dX4_shape_3 (by decide) ?_
  refine va_mmin hx hb (hml.trans hl.1.symm) hown (hts _ w_790) (hts _ w_548) (hts _ w_112) (hts _ w_549) (Nat.le_of_ble_eq_true rfl) (Nat.le_of_ble_eq_true rfl) (Nat.le_of_ble_eq_true rfl) (Nat.le_of_ble_eq_true rfl) dX4_shape_5 (i_min hu1 (iv_k (x := 32) (k := 32) rfl) (lo := (-2147483648)) (hi := 32) (by decide) (fun z1 mz1 iz1 => ?_))
  have n2 : (32 : Int32).toInt = 32 := rfl
  refine va_mmax hx hb (hml.trans hl.1.symm) hown (hts _ w_791) (hts _ w_453) (hts _ w_112) (hts _ w_454) (Nat.le_of_ble_eq_true rfl) (Nat.le_of_ble_eq_true rfl) (Nat.le_of_ble_eq_true rfl) (Nat.le_of_ble_eq_true rfl) dX4_shape_8 (i_max (iv_k (x := 0) (k := 0) rfl) iz1 (lo := 0) (hi := 32) (by decide) (fun z3 mz3 iz3 => ?_))
  have n4 : (0 : Int32).toInt = 0 := rfl
  refine t_put C h t o hu0 (by decide) (by decide) (by decide) wf_40 fw_40 (k := 1) rfl flw_X4_25 (Or.inr ⟨_, _, _, rfl, rfl⟩) (v := .int z3) rfl rfl ⟨_, rfl, iz3⟩ dX4_shape_11 (fun f5 H locs h tf5 of5 hq ha_ hn_ hk_ => ?_)
  have k6 := ha_
  refine lv_aload_n hx hb dX4_shape_14 rfl (lv_at hl 0 rfl) ?_
  refine lv_iconst (v := 0) hx hb dX4_shape_15 (by decide) ?_
  refine lv_iload_n hx hb dX4_shape_16 rfl (lv_at hl 2 rfl) ?_
  refine lv_bipush (v := 28) hx hb dX4_shape_17 (by decide) ?_
  refine va_mmin hx hb (hml.trans hl.1.symm) hown (hts _ w_790) (hts _ w_548) (hts _ w_112) (hts _ w_549) (Nat.le_of_ble_eq_true rfl) (Nat.le_of_ble_eq_true rfl) (Nat.le_of_ble_eq_true rfl) (Nat.le_of_ble_eq_true rfl) dX4_shape_19 (i_min hu2 (iv_k (x := 28) (k := 28) rfl) (lo := (-2147483648)) (hi := 28) (by decide) (fun z7 mz7 iz7 => ?_))
  have n8 : (28 : Int32).toInt = 28 := rfl
  refine va_mmax hx hb (hml.trans hl.1.symm) hown (hts _ w_791) (hts _ w_453) (hts _ w_112) (hts _ w_454) (Nat.le_of_ble_eq_true rfl) (Nat.le_of_ble_eq_true rfl) (Nat.le_of_ble_eq_true rfl) (Nat.le_of_ble_eq_true rfl) dX4_shape_22 (i_max (iv_k (x := 0) (k := 0) rfl) iz7 (lo := 0) (hi := 28) (by decide) (fun z9 mz9 iz9 => ?_))
  have n10 : (0 : Int32).toInt = 0 := rfl
  refine t_put C h tf5 of5 hu0 (by decide) (by decide) (by decide) wf_40 fw_40 (k := 2) rfl flw_X4_29 (Or.inr ⟨_, _, _, rfl, rfl⟩) (v := .int z9) rfl rfl ⟨_, rfl, iz9⟩ dX4_shape_25 (fun f11 H locs h tf11 of11 hq ha_ hn_ hk_ => ?_)
  have k12 := ha_
  refine lv_aload_n hx hb dX4_shape_28 rfl (lv_at hl 0 rfl) ?_
  refine lv_iconst (v := 1) hx hb dX4_shape_29 (by decide) ?_
  refine t_put C h tf11 of11 hu0 (by decide) (by decide) (by decide) wf_40 fw_40 (k := 3) rfl flw_X4_32 (Or.inr ⟨_, _, _, rfl, rfl⟩) (v := .int 1) rfl rfl ⟨_, rfl, ⟨by decide, by decide⟩⟩ dX4_shape_30 (fun f13 H locs h tf13 of13 hq ha_ hn_ hk_ => ?_)
  have k14 := ha_
  exact u_vret C h hr hQ (⟨tf13, of13⟩) (Nat.le_of_ble_eq_true rfl) (Nat.le_of_ble_eq_true rfl) dX4_shape_33
abbrev rm_s_X4_put : Room := { frames := 1, cells := 0, slots := 0, locals := 22 }
set_option maxRecDepth 100000 in
set_option maxHeartbeats 4000000 in
theorem s_X4_put (l : Launch) (D : va_G) (G : Nat → Nat) (b0 : Nat) (τ : Nat → Nat) (f : hM) (t : TI G 9 τ f) (u0 : Nat) (hu0 : τ u0 = 40) (u1 : Int32) (hu1 : iv u1 (-2147483648) 2147483647) (u2 : Int32) (hu2 : iv u2 (-2147483648) 2147483647) (u3 : Int64) : mV l yX4_put cX4_put 5 rm_s_X4_put D G b0 f [.ref u0, .int u1, .int u2, .long u3] (fun f1 => TI G 9 τ f1 ∧ Fr [42] τ f f1) := by
  refine met2 (own := RX4) (by decide) rfl (Nat.le_of_ble_eq_true rfl) ?_
  intro p e s m args below meth c ls Q hQ C hr hini hl h
  have hl : lv_has ls 5 [(0, .ref u0), (1, .int u1), (2, .int u2), (3, .long u3)] := hl
  obtain ⟨hx, hb, hml, hown, hts, hE0, hlk⟩ := id C
  have o := Fr.rf [42] τ f
  refine lv_iload_n hx hb dX4_put_0 rfl (lv_at hl 1 rfl) ?_
  refine lv_iconst (v := 0) hx hb dX4_put_1 (by decide) ?_
  refine lv_aload_n hx hb dX4_put_2 rfl (lv_at hl 0 rfl) ?_
  refine t_geti C h t hu0 (by decide) wf_40 rfl fl_X4_25 dX4_put_3 (fun z1 iz1 => ?_)
  refine lv_iconst (v := 1) hx hb dX4_put_6 (by decide) ?_
  refine i_subk hx hb dX4_put_7 iz1 (k := 1) rfl (lo := (-1)) (hi := 31) (by decide) (fun z2 ez2 mz2 iz2 => ?_)
  refine k_i (r_SN C h hl (host := "QuarterWalks") (As := [.int u1, .int 0, .int z2]) (rest := []) (s_X10_within l D G b0 τ f t u1 hu1 0 (iv_w (iv_k (x := 0) (k := 0) rfl) (by decide)) z2 (iv_w iz2 (by decide))) mk_X10_within (by decide) w_426 w_427 ⟨Nat.le_of_ble_eq_true rfl, Nat.le_of_ble_eq_true rfl⟩ rfl (Nat.le_of_ble_eq_true rfl) ⟨Nat.le_of_ble_eq_true rfl, Nat.le_of_ble_eq_true rfl⟩ rfl dX4_put_8) h (fun r3 f4 H locs p5 h => ?_)
  have n6 : (0 : Int32).toInt = 0 := rfl
  obtain ⟨ir3, tf4, ogf4, cnr3, czr3⟩ := p5
  have egf4 := Fr.nil2 ogf4
  subst egf4
  refine lv_if_eq (tgt := 37) hx hb dX4_put_11 (by decide) (fun c7 => ?_) (fun c7 => ?_)
  · have c8 : r3.toInt = 0 := congrArg Int32.toInt c7
    have i9 : iv r3 0 0 := iv_Q c8 ir3 (iv_k (x := 0) (k := 0) rfl) (by decide)
    have i10 := czr3 c8
    exact u_vret C h hr hQ (⟨t, o⟩) (Nat.le_of_ble_eq_true rfl) (Nat.le_of_ble_eq_true rfl) dX4_put_37
  · have c11 : r3.toInt ≠ 0 := fun z_ => c7 (Int32.toInt_inj.mp z_)
    have i12 : iv r3 1 1 := iv_Nl c11 ir3 (by decide)
    obtain ⟨i13, i14⟩ := cnr3 c11
    have i15 : iv u1 0 31 := ⟨by omega, by omega⟩
    refine lv_iload_n hx hb dX4_put_14 rfl (lv_at hl 2 rfl) ?_
    refine lv_iconst (v := 0) hx hb dX4_put_15 (by decide) ?_
    refine lv_aload_n hx hb dX4_put_16 rfl (lv_at hl 0 rfl) ?_
    refine t_geti C h t hu0 (by decide) wf_40 rfl fl_X4_29 dX4_put_17 (fun z16 iz16 => ?_)
    refine lv_iconst (v := 1) hx hb dX4_put_20 (by decide) ?_
    refine i_subk hx hb dX4_put_21 iz16 (k := 1) rfl (lo := (-1)) (hi := 27) (by decide) (fun z17 ez17 mz17 iz17 => ?_)
    refine k_i (r_SN C h hl (host := "QuarterWalks") (As := [.int u2, .int 0, .int z17]) (rest := []) (s_X10_within l D G b0 τ f t u2 hu2 0 (iv_w (iv_k (x := 0) (k := 0) rfl) (by decide)) z17 (iv_w iz17 (by decide))) mk_X10_within (by decide) w_426 w_427 ⟨Nat.le_of_ble_eq_true rfl, Nat.le_of_ble_eq_true rfl⟩ rfl (Nat.le_of_ble_eq_true rfl) ⟨Nat.le_of_ble_eq_true rfl, Nat.le_of_ble_eq_true rfl⟩ rfl dX4_put_22) h (fun r18 f19 H locs p20 h => ?_)
    have n21 : (0 : Int32).toInt = 0 := rfl
    obtain ⟨ir18, tf19, ogf19, cnr18, czr18⟩ := p20
    have egf19 := Fr.nil2 ogf19
    subst egf19
    refine lv_if_eq (tgt := 37) hx hb dX4_put_25 (by decide) (fun c22 => ?_) (fun c22 => ?_)
    · have c23 : r18.toInt = 0 := congrArg Int32.toInt c22
      have i24 : iv r18 0 0 := iv_Q c23 ir18 (iv_k (x := 0) (k := 0) rfl) (by decide)
      have i25 := czr18 c23
      exact u_vret C h hr hQ (⟨t, o⟩) (Nat.le_of_ble_eq_true rfl) (Nat.le_of_ble_eq_true rfl) dX4_put_37
    · have c26 : r18.toInt ≠ 0 := fun z_ => c22 (Int32.toInt_inj.mp z_)
      have i27 : iv r18 1 1 := iv_Nl c26 ir18 (by decide)
      obtain ⟨i28, i29⟩ := cnr18 c26
      have i30 : iv u2 0 27 := ⟨by omega, by omega⟩
      refine lv_aload_n hx hb dX4_put_28 rfl (lv_at hl 0 rfl) ?_
      refine t_getr (tq := 41) C h t hu0 (by decide) wf_40 rfl fl_X4_13 dX4_put_29 (fun q31 tq31 => ?_)
      refine lv_iload_n hx hb dX4_put_32 rfl (lv_at hl 1 rfl) ?_
      refine t_aaldA C h t (g := 6) rfl tq31 (by decide) wf_41 (iv_in i15 (by decide)) dX4_put_33 (fun q32 tq32 => ?_)
      refine lv_iload_n hx hb dX4_put_34 rfl (lv_at hl 2 rfl) ?_
      refine lv_lload_n hx hb dX4_put_35 rfl (lv_at hl 3 rfl) ?_
      refine t_last C h t o tq32 (by decide) (by decide) wf_42 fw_42 (iv_in i30 (by decide)) dX4_put_36 (fun f33 H locs h tf33 of33 hq => ?_)
      exact u_vret C h hr hQ (⟨tf33, of33⟩) (Nat.le_of_ble_eq_true rfl) (Nat.le_of_ble_eq_true rfl) dX4_put_37
abbrev rm_s_X4_share : Room := { frames := 1, cells := 0, slots := 0, locals := 22 }
set_option maxRecDepth 100000 in
set_option maxHeartbeats 4000000 in
theorem s_X4_share (l : Launch) (D : va_G) (G : Nat → Nat) (b0 : Nat) (τ : Nat → Nat) (f : hM) (t : TI G 9 τ f) (u0 : Nat) (hu0 : τ u0 = 40) (u1 : Int32) (hu1 : iv u1 (-2147483648) 2147483647) (u2 : Int32) (hu2 : iv u2 (-2147483648) 2147483647) : mI l yX4_share cX4_share 4 (.int) rm_s_X4_share D G b0 f [.ref u0, .int u1, .int u2] (fun r f1 => iv r (-2147483648) 2147483647 ∧ TI G 9 τ f1 ∧ Fr [] τ f f1) := by
  refine met2 (own := RX4) (by decide) rfl (Nat.le_of_ble_eq_true rfl) ?_
  intro p e s m args below meth c ls Q hQ C hr hini hl h
  have hl : lv_has ls 4 [(0, .ref u0), (1, .int u1), (2, .int u2)] := hl
  obtain ⟨hx, hb, hml, hown, hts, hE0, hlk⟩ := id C
  have o := Fr.rf [] τ f
  refine lv_iload_n hx hb dX4_share_0 rfl (lv_at hl 1 rfl) ?_
  refine lv_iconst (v := 0) hx hb dX4_share_1 (by decide) ?_
  refine lv_aload_n hx hb dX4_share_2 rfl (lv_at hl 0 rfl) ?_
  refine t_geti C h t hu0 (by decide) wf_40 rfl fl_X4_25 dX4_share_3 (fun z1 iz1 => ?_)
  refine lv_iconst (v := 1) hx hb dX4_share_6 (by decide) ?_
  refine i_subk hx hb dX4_share_7 iz1 (k := 1) rfl (lo := (-1)) (hi := 31) (by decide) (fun z2 ez2 mz2 iz2 => ?_)
  refine k_i (r_SN C h hl (host := "QuarterWalks") (As := [.int u1, .int 0, .int z2]) (rest := []) (s_X10_within l D G b0 τ f t u1 hu1 0 (iv_w (iv_k (x := 0) (k := 0) rfl) (by decide)) z2 (iv_w iz2 (by decide))) mk_X10_within (by decide) w_426 w_427 ⟨Nat.le_of_ble_eq_true rfl, Nat.le_of_ble_eq_true rfl⟩ rfl (Nat.le_of_ble_eq_true rfl) ⟨Nat.le_of_ble_eq_true rfl, Nat.le_of_ble_eq_true rfl⟩ rfl dX4_share_8) h (fun r3 f4 H locs p5 h => ?_)
  have n6 : (0 : Int32).toInt = 0 := rfl
  obtain ⟨ir3, tf4, ogf4, cnr3, czr3⟩ := p5
  have egf4 := Fr.nil2 ogf4
  subst egf4
  refine lv_if_eq (tgt := 32) hx hb dX4_share_11 (by decide) (fun c7 => ?_) (fun c7 => ?_)
  · have c8 : r3.toInt = 0 := congrArg Int32.toInt c7
    have i9 : iv r3 0 0 := iv_Q c8 ir3 (iv_k (x := 0) (k := 0) rfl) (by decide)
    have i10 := czr3 c8
    refine lv_iconst (v := 0) hx hb dX4_share_32 (by decide) ?_
    refine lv_istore_n (lv' := [(3, .int 0), (0, .ref u0), (1, .int u1), (2, .int u2)]) hx hb dX4_share_33 rfl hl (by decide) rfl (fun ls hl => ?_)
    refine lv_iload_n hx hb dX4_share_34 rfl (lv_at hl 0 rfl) ?_
    refine lv_if_eq (tgt := 50) hx hb dX4_share_35 (by decide) (fun c16 => ?_) (fun c16 => ?_)
    · refine lv_iconst (v := 0) hx hb dX4_share_50 (by decide) ?_
      exact u_iret C h hr hQ (⟨⟨by decide, by decide⟩, t, o⟩) (Nat.le_of_ble_eq_true rfl) (Nat.le_of_ble_eq_true rfl) dX4_share_51
    · exact absurd c16 (by decide)
  · have c11 : r3.toInt ≠ 0 := fun z_ => c7 (Int32.toInt_inj.mp z_)
    have i12 : iv r3 1 1 := iv_Nl c11 ir3 (by decide)
    obtain ⟨i13, i14⟩ := cnr3 c11
    have i15 : iv u1 0 31 := ⟨by omega, by omega⟩
    refine lv_iload_n hx hb dX4_share_14 rfl (lv_at hl 2 rfl) ?_
    refine lv_iconst (v := 0) hx hb dX4_share_15 (by decide) ?_
    refine lv_aload_n hx hb dX4_share_16 rfl (lv_at hl 0 rfl) ?_
    refine t_geti C h t hu0 (by decide) wf_40 rfl fl_X4_29 dX4_share_17 (fun z19 iz19 => ?_)
    refine lv_iconst (v := 1) hx hb dX4_share_20 (by decide) ?_
    refine i_subk hx hb dX4_share_21 iz19 (k := 1) rfl (lo := (-1)) (hi := 27) (by decide) (fun z20 ez20 mz20 iz20 => ?_)
    refine k_i (r_SN C h hl (host := "QuarterWalks") (As := [.int u2, .int 0, .int z20]) (rest := []) (s_X10_within l D G b0 τ f t u2 hu2 0 (iv_w (iv_k (x := 0) (k := 0) rfl) (by decide)) z20 (iv_w iz20 (by decide))) mk_X10_within (by decide) w_426 w_427 ⟨Nat.le_of_ble_eq_true rfl, Nat.le_of_ble_eq_true rfl⟩ rfl (Nat.le_of_ble_eq_true rfl) ⟨Nat.le_of_ble_eq_true rfl, Nat.le_of_ble_eq_true rfl⟩ rfl dX4_share_22) h (fun r21 f22 H locs p23 h => ?_)
    have n24 : (0 : Int32).toInt = 0 := rfl
    obtain ⟨ir21, tf22, ogf22, cnr21, czr21⟩ := p23
    have egf22 := Fr.nil2 ogf22
    subst egf22
    refine lv_if_eq (tgt := 32) hx hb dX4_share_25 (by decide) (fun c25 => ?_) (fun c25 => ?_)
    · have c26 : r21.toInt = 0 := congrArg Int32.toInt c25
      have i27 : iv r21 0 0 := iv_Q c26 ir21 (iv_k (x := 0) (k := 0) rfl) (by decide)
      have i28 := czr21 c26
      refine lv_iconst (v := 0) hx hb dX4_share_32 (by decide) ?_
      refine lv_istore_n (lv' := [(3, .int 0), (0, .ref u0), (1, .int u1), (2, .int u2)]) hx hb dX4_share_33 rfl hl (by decide) rfl (fun ls hl => ?_)
      refine lv_iload_n hx hb dX4_share_34 rfl (lv_at hl 0 rfl) ?_
      refine lv_if_eq (tgt := 50) hx hb dX4_share_35 (by decide) (fun c34 => ?_) (fun c34 => ?_)
      · refine lv_iconst (v := 0) hx hb dX4_share_50 (by decide) ?_
        exact u_iret C h hr hQ (⟨⟨by decide, by decide⟩, t, o⟩) (Nat.le_of_ble_eq_true rfl) (Nat.le_of_ble_eq_true rfl) dX4_share_51
      · exact absurd c34 (by decide)
    · have c29 : r21.toInt ≠ 0 := fun z_ => c25 (Int32.toInt_inj.mp z_)
      have i30 : iv r21 1 1 := iv_Nl c29 ir21 (by decide)
      obtain ⟨i31, i32⟩ := cnr21 c29
      have i33 : iv u2 0 27 := ⟨by omega, by omega⟩
      refine lv_iconst (v := 1) hx hb dX4_share_28 (by decide) ?_
      refine lv_goto (tgt := 33) hx hb dX4_share_29 (by decide) ?_
      refine lv_istore_n (lv' := [(3, .int 1), (0, .ref u0), (1, .int u1), (2, .int u2)]) hx hb dX4_share_33 rfl hl (by decide) rfl (fun ls hl => ?_)
      refine lv_iload_n hx hb dX4_share_34 rfl (lv_at hl 0 rfl) ?_
      refine lv_if_eq (tgt := 50) hx hb dX4_share_35 (by decide) (fun c37 => ?_) (fun c37 => ?_)
      · exact absurd c37 (by decide)
      · refine lv_aload_n hx hb dX4_share_38 rfl (lv_at hl 1 rfl) ?_
        refine t_getr (tq := 41) C h t hu0 (by decide) wf_40 rfl fl_X4_13 dX4_share_39 (fun q40 tq40 => ?_)
        refine lv_iload_n hx hb dX4_share_42 rfl (lv_at hl 2 rfl) ?_
        refine t_aaldA C h t (g := 6) rfl tq40 (by decide) wf_41 (iv_in i15 (by decide)) dX4_share_43 (fun q41 tq41 => ?_)
        refine lv_iload_n hx hb dX4_share_44 rfl (lv_at hl 3 rfl) ?_
        refine t_lald C h t tq41 (by decide) wf_42 (iv_in i33 (by decide)) dX4_share_45 (fun w42 => ?_)
        refine lv_l2i hx hb dX4_share_46 rfl (i_top (iv_any _) (fun z43 ez43 iz43 => ?_))
        refine lv_goto (tgt := 51) hx hb dX4_share_47 (by decide) ?_
        exact u_iret C h hr hQ (⟨iz43, t, o⟩) (Nat.le_of_ble_eq_true rfl) (Nat.le_of_ble_eq_true rfl) dX4_share_51
abbrev rm_s_X4_clear : Room := { frames := 0, cells := 0, slots := 0, locals := 0 }
set_option maxRecDepth 100000 in
set_option maxHeartbeats 4000000 in
theorem s_X4_clear (l : Launch) (D : va_G) (G : Nat → Nat) (b0 : Nat) (τ : Nat → Nat) (f : hM) (t : TI G 9 τ f) (u0 : Nat) (hu0 : τ u0 = 40) (u1 : Nat) (hu1 : τ u1 = 42) (u2 : Nat) (hu2 : τ u2 = 42) (u3 : Int32) (hu3 : iv u3 0 27) : mV l yX4_clear cX4_clear 7 rm_s_X4_clear D G b0 f [.ref u0, .ref u1, .ref u2, .int u3] (fun f1 => TI G 9 τ f1 ∧ Fr [42] τ f f1) := by
  refine met2 (own := RX4) (by decide) rfl (Nat.le_of_ble_eq_true rfl) ?_
  intro p e s m args below meth c ls Q hQ C hr hini hl h
  have hl : lv_has ls 7 [(0, .ref u0), (1, .ref u1), (2, .ref u2), (3, .int u3)] := hl
  obtain ⟨hx, hb, hml, hown, hts, hE0, hlk⟩ := id C
  have o := Fr.rf [42] τ f
  have L12 : ∀ (n12 : Nat) (ls : Array Slot) (f_12 : hM) (H : Heap) (locs : List Loc) (v12_4 : Int64) (v12_6 : Int32), 28 - v12_6.toInt < (n12 : Int) → lv_has ls 7 [(0, .ref u0), (1, .ref u1), (2, .ref u2), (4, .long v12_4), (6, .int v12_6)] → hw D b0 s.heap f_12 H locs → TI G 9 τ f_12 → Fr [42] τ f f_12 → iv v12_6 0 28 → W p l e rm_s_X4_clear s m args below meth c H locs 0 0 Q (F0 m 12 ls []) := by
    intro n12
    induction n12 with
    | zero => intro ls f_12 H locs v12_4 v12_6 hm12 hl h t_12 o_12 iv12_6; exact absurd hm12 (by omega)
    | succ n12 ih12 =>
      intro ls f_12 H locs v12_4 v12_6 hm12 hl h t_12 o_12 iv12_6
      refine lv_iload hx hb dX4_clear_12 (lv_at hl 4 rfl) ?_
      refine lv_aload_n hx hb dX4_clear_14 rfl (lv_at hl 0 rfl) ?_
      refine t_geti C h t_12 hu0 (by decide) wf_40 rfl fl_X4_29 dX4_clear_15 (fun z1 iz1 => ?_)
      refine lv_icmp_ge (tgt := 47) hx hb dX4_clear_18 (by decide) (fun c2 => ?_) (fun c2 => ?_)
      · have c3 : z1.toInt ≤ v12_6.toInt := Int32.le_iff_toInt_le.mp c2
        exact u_vret C h hr hQ (⟨t_12, o_12⟩) (Nat.le_of_ble_eq_true rfl) (Nat.le_of_ble_eq_true rfl) dX4_clear_47
      · have c4 : v12_6.toInt < z1.toInt := Int32.lt_iff_toInt_lt.mp (iv_nle c2)
        have i5 : iv v12_6 0 27 := iv_Ll c4 iv12_6 iz1 (by decide)
        have i6 : iv z1 1 28 := iv_Lr c4 iv12_6 iz1 (by decide)
        refine lv_aload_n hx hb dX4_clear_21 rfl (lv_at hl 1 rfl) ?_
        refine lv_iload hx hb dX4_clear_22 (lv_at hl 4 rfl) ?_
        refine lv_aload_n hx hb dX4_clear_24 rfl (lv_at hl 1 rfl) ?_
        refine lv_iload hx hb dX4_clear_25 (lv_at hl 4 rfl) ?_
        refine t_lald C h t_12 hu1 (by decide) wf_42 (iv_in i5 (by decide)) dX4_clear_27 (fun w7 => ?_)
        refine lv_lload hx hb dX4_clear_28 (lv_at hl 3 rfl) ?_
        refine lv_aload_n hx hb dX4_clear_30 rfl (lv_at hl 2 rfl) ?_
        refine lv_iload hx hb dX4_clear_31 (lv_at hl 4 rfl) ?_
        refine t_lald C h t_12 hu2 (by decide) wf_42 (iv_in i5 (by decide)) dX4_clear_33 (fun w8 => ?_)
        refine lv_lmul hx hb dX4_clear_34 (lv_topl (fun w9 ew9 => ?_))
        refine lv_ladd hx hb dX4_clear_35 (lv_topl (fun w10 ew10 => ?_))
        refine lv_ldc2 (v := 1000003) hx hb hown (hts _ w_805) dX4_clear_36 ?_
        refine lv_lrem hx hb dX4_clear_39 (by decide) (i_topl (lrem_iv (k := 1000003) rfl (by decide) (lo := -1000002) (hi := 1000002) (by decide)) (fun w11 ew11 iw11 => ?_))
        refine t_last C h t_12 o_12 hu1 (by decide) (by decide) wf_42 fw_42 (iv_in i5 (by decide)) dX4_clear_40 (fun f12 H locs h tf12 of12 hq => ?_)
        refine i_inc hx hb dX4_clear_41 hl (k := 4) rfl i5 rfl (lo := 1) (hi := 28) (by decide) (by decide) (lv' := fun v => [(6, .int v), (0, .ref u0), (1, .ref u1), (2, .ref u2), (4, .long v12_4)]) (fun _ => rfl) (fun z13 ls ez13 mz13 iz13 hl => ?_)
        refine lv_goto (tgt := 12) hx hb dX4_clear_44 (by decide) ?_
        exact ih12 ls f12 H locs v12_4 z13 (show 28 - z13.toInt < _ by omega) (lv_cons hl 1 rfl (lv_cons hl 2 rfl (lv_cons hl 3 rfl (lv_cons hl 4 rfl (lv_cons hl 0 rfl (lv_nil hl)))))) h tf12 of12 (iv_w iz13 (by decide))
  refine lv_ldc2 (v := 1000003) hx hb hown (hts _ w_805) dX4_clear_0 ?_
  refine lv_aload_n hx hb dX4_clear_3 rfl (lv_at hl 1 rfl) ?_
  refine lv_iload_n hx hb dX4_clear_4 rfl (lv_at hl 3 rfl) ?_
  refine t_lald C h t hu1 (by decide) wf_42 (iv_in hu3 (by decide)) dX4_clear_5 (fun w14 => ?_)
  refine lv_lsub hx hb dX4_clear_6 (lv_topl (fun w15 ew15 => ?_))
  refine lv_lstore (lv' := [(4, .long w15), (0, .ref u0), (1, .ref u1), (2, .ref u2), (3, .int u3)]) hx hb dX4_clear_7 hl (by decide) rfl (fun ls hl => ?_)
  refine lv_iload_n hx hb dX4_clear_9 rfl (lv_at hl 4 rfl) ?_
  refine lv_istore (lv' := [(6, .int u3), (4, .long w15), (0, .ref u0), (1, .ref u1), (2, .ref u2), (3, .int u3)]) hx hb dX4_clear_10 hl (by decide) rfl (fun ls hl => ?_)
  exact L12 29 ls f s.heap [] w15 u3 (show 28 - u3.toInt < _ by omega) (lv_cons hl 2 rfl (lv_cons hl 3 rfl (lv_cons hl 4 rfl (lv_cons hl 1 rfl (lv_cons hl 0 rfl (lv_nil hl)))))) h t o (iv_w hu3 (by decide))
abbrev rm_s_X4_clearsBy : Room := { frames := 1, cells := 0, slots := 0, locals := 26 }
set_option maxRecDepth 100000 in
set_option maxHeartbeats 4000000 in
theorem s_X4_clearsBy (l : Launch) (D : va_G) (G : Nat → Nat) (b0 : Nat) (τ : Nat → Nat) (f : hM) (t : TI G 9 τ f) (u0 : Nat) (hu0 : τ u0 = 40) (u1 : Int32) (hu1 : iv u1 0 32) (u2 : Int32) (hu2 : iv u2 0 27) : mI l yX4_clearsBy cX4_clearsBy 8 (.boolean) rm_s_X4_clearsBy D G b0 f [.ref u0, .int u1, .int u2] (fun r f1 => iv r 0 1 ∧ TI G 9 τ f1 ∧ Fr [40, 41, 42, 40004] τ f f1) := by
  refine met2 (own := RX4) (by decide) rfl (Nat.le_of_ble_eq_true rfl) ?_
  intro p e s m args below meth c ls Q hQ C hr hini hl h
  have hl : lv_has ls 8 [(0, .ref u0), (1, .int u1), (2, .int u2)] := hl
  obtain ⟨hx, hb, hml, hown, hts, hE0, hlk⟩ := id C
  have o := Fr.rf [40, 41, 42, 40004] τ f
  have L2 : ∀ (n2 : Nat) (ls : Array Slot) (f_2 : hM) (H : Heap) (locs : List Loc) (v2_3 : Int32), 32 - v2_3.toInt < (n2 : Int) → lv_has ls 8 [(0, .ref u0), (1, .int u1), (2, .int u2), (3, .int v2_3)] → hw D b0 s.heap f_2 H locs → TI G 9 τ f_2 → Fr [40, 41, 42, 40004] τ f f_2 → iv v2_3 0 32 → u1.toInt ≤ v2_3.toInt → W p l e rm_s_X4_clearsBy s m args below meth c H locs 0 0 Q (F0 m 2 ls []) := by
    intro n2
    induction n2 with
    | zero => intro ls f_2 H locs v2_3 hm2 hl h t_2 o_2 iv2_3 hv2_0; exact absurd hm2 (by omega)
    | succ n2 ih2 =>
      intro ls f_2 H locs v2_3 hm2 hl h t_2 o_2 iv2_3 hv2_0
      have L29 : ∀ (ls : Array Slot) (f_29 : hM) (H : Heap) (locs : List Loc), lv_has ls 8 [(0, .ref u0), (1, .int u1), (2, .int u2), (3, .int v2_3)] → hw D b0 s.heap f_29 H locs → TI G 9 τ f_29 → Fr [40, 41, 42, 40004] τ f f_29 → u1.toInt ≤ v2_3.toInt → W p l e rm_s_X4_clearsBy s m args below meth c H locs 0 0 Q (F0 m 29 ls []) := by
        intro ls f_29 H locs hl h t_29 o_29 hv29_0
        have L113 : ∀ (n113 : Nat) (ls : Array Slot) (f_113 : hM) (H : Heap) (locs : List Loc) (v113_4 : Nat) (v113_5 : Int64) (v113_7 : Int32), 28 - v113_7.toInt < (n113 : Int) → lv_has ls 8 [(0, .ref u0), (1, .int u1), (2, .int u2), (4, .ref v113_4), (5, .long v113_5), (7, .int v113_7)] → hw D b0 s.heap f_113 H locs → TI G 9 τ f_113 → Fr [40, 41, 42, 40004] τ f f_113 → τ v113_4 = 42 → ivl v113_5 (-1000002) 1000002 → iv v113_7 0 28 → W p l e rm_s_X4_clearsBy s m args below meth c H locs 0 0 Q (F0 m 113 ls []) := by
          intro n113
          induction n113 with
          | zero => intro ls f_113 H locs v113_4 v113_5 v113_7 hm113 hl h t_113 o_113 tv113_4 iv113_5 iv113_7; exact absurd hm113 (by omega)
          | succ n113 ih113 =>
            intro ls f_113 H locs v113_4 v113_5 v113_7 hm113 hl h t_113 o_113 tv113_4 iv113_5 iv113_7
            have L147 : ∀ (n147 : Nat) (ls : Array Slot) (f_147 : hM) (H : Heap) (locs : List Loc) (v147_7 : Int32), 32 - v147_7.toInt < (n147 : Int) → lv_has ls 8 [(0, .ref u0), (1, .int u1), (2, .int u2), (4, .ref v113_4), (7, .int v147_7)] → hw D b0 s.heap f_147 H locs → TI G 9 τ f_147 → Fr [40, 41, 42, 40004] τ f f_147 → iv v147_7 0 32 → W p l e rm_s_X4_clearsBy s m args below meth c H locs 0 0 Q (F0 m 147 ls []) := by
              intro n147
              induction n147 with
              | zero => intro ls f_147 H locs v147_7 hm147 hl h t_147 o_147 iv147_7; exact absurd hm147 (by omega)
              | succ n147 ih147 =>
                intro ls f_147 H locs v147_7 hm147 hl h t_147 o_147 iv147_7
                refine lv_iload hx hb dX4_clearsBy_147 (lv_at hl 4 rfl) ?_
                refine lv_aload_n hx hb dX4_clearsBy_149 rfl (lv_at hl 0 rfl) ?_
                refine t_geti C h t_147 hu0 (by decide) wf_40 rfl fl_X4_25 dX4_clearsBy_150 (fun z1 iz1 => ?_)
                refine lv_icmp_ge (tgt := 196) hx hb dX4_clearsBy_153 (by decide) (fun c2 => ?_) (fun c2 => ?_)
                · have c3 : z1.toInt ≤ v147_7.toInt := Int32.le_iff_toInt_le.mp c2
                  refine lv_iconst (v := 1) hx hb dX4_clearsBy_196 (by decide) ?_
                  exact u_zret C h hr hQ ⟨by decide, by decide⟩ (⟨⟨by decide, by decide⟩, t_147, o_147⟩) (Nat.le_of_ble_eq_true rfl) (Nat.le_of_ble_eq_true rfl) dX4_clearsBy_197
                · have c4 : v147_7.toInt < z1.toInt := Int32.lt_iff_toInt_lt.mp (iv_nle c2)
                  have i5 : iv v147_7 0 31 := iv_Ll c4 iv147_7 iz1 (by decide)
                  have i6 : iv z1 1 32 := iv_Lr c4 iv147_7 iz1 (by decide)
                  refine lv_iload hx hb dX4_clearsBy_156 (lv_at hl 4 rfl) ?_
                  refine lv_iload_n hx hb dX4_clearsBy_158 rfl (lv_at hl 1 rfl) ?_
                  refine lv_icmp_eq (tgt := 190) hx hb dX4_clearsBy_159 (by decide) (fun c7 => ?_) (fun c7 => ?_)
                  · have c8 : v147_7.toInt = u1.toInt := congrArg Int32.toInt c7
                    have i9 : iv u1 0 31 := iv_Q c8.symm hu1 i5 (by decide)
                    refine i_inc hx hb dX4_clearsBy_190 hl (k := 4) rfl i5 rfl (lo := 1) (hi := 32) (by decide) (by decide) (lv' := fun v => [(7, .int v), (0, .ref u0), (1, .int u1), (2, .int u2), (4, .ref v113_4)]) (fun _ => rfl) (fun z11 ls ez11 mz11 iz11 hl => ?_)
                    refine lv_goto (tgt := 147) hx hb dX4_clearsBy_193 (by decide) ?_
                    exact ih147 ls f_147 H locs z11 (show 32 - z11.toInt < _ by omega) (lv_cons hl 1 rfl (lv_cons hl 2 rfl (lv_cons hl 3 rfl (lv_cons hl 4 rfl (lv_cons hl 0 rfl (lv_nil hl)))))) h t_147 o_147 (iv_w iz11 (by decide))
                  · have c10 : v147_7.toInt ≠ u1.toInt := fun z_ => c7 (Int32.toInt_inj.mp z_)
                    refine lv_aload_n hx hb dX4_clearsBy_162 rfl (lv_at hl 0 rfl) ?_
                    refine t_getr (tq := 41) C h t_147 hu0 (by decide) wf_40 rfl fl_X4_13 dX4_clearsBy_163 (fun q12 tq12 => ?_)
                    refine lv_iload hx hb dX4_clearsBy_166 (lv_at hl 4 rfl) ?_
                    refine t_aaldA C h t_147 (g := 6) rfl tq12 (by decide) wf_41 (iv_in i5 (by decide)) dX4_clearsBy_168 (fun q13 tq13 => ?_)
                    refine lv_iload_n hx hb dX4_clearsBy_169 rfl (lv_at hl 2 rfl) ?_
                    refine t_lald C h t_147 tq13 (by decide) wf_42 (iv_in hu2 (by decide)) dX4_clearsBy_170 (fun w14 => ?_)
                    refine lv_lconst (v := 0) hx hb dX4_clearsBy_171 (by decide) ?_
                    refine W.lcmp hx hb dX4_clearsBy_172 (i_topc (fun z15 ez15 mz15 iz15 => ?_))
                    refine lv_if_eq (tgt := 190) hx hb dX4_clearsBy_173 (by decide) (fun c16 => ?_) (fun c16 => ?_)
                    · have c17 : z15.toInt = 0 := congrArg Int32.toInt c16
                      have i18 : iv z15 0 0 := iv_Q c17 iz15 (iv_k (x := 0) (k := 0) rfl) (by decide)
                      refine i_inc hx hb dX4_clearsBy_190 hl (k := 4) rfl i5 rfl (lo := 1) (hi := 32) (by decide) (by decide) (lv' := fun v => [(7, .int v), (0, .ref u0), (1, .int u1), (2, .int u2), (4, .ref v113_4)]) (fun _ => rfl) (fun z20 ls ez20 mz20 iz20 hl => ?_)
                      refine lv_goto (tgt := 147) hx hb dX4_clearsBy_193 (by decide) ?_
                      exact ih147 ls f_147 H locs z20 (show 32 - z20.toInt < _ by omega) (lv_cons hl 1 rfl (lv_cons hl 2 rfl (lv_cons hl 3 rfl (lv_cons hl 4 rfl (lv_cons hl 0 rfl (lv_nil hl)))))) h t_147 o_147 (iv_w iz20 (by decide))
                    · have c19 : z15.toInt ≠ 0 := fun z_ => c16 (Int32.toInt_inj.mp z_)
                      refine lv_aload_n hx hb dX4_clearsBy_176 rfl (lv_at hl 0 rfl) ?_
                      refine lv_aload_n hx hb dX4_clearsBy_177 rfl (lv_at hl 0 rfl) ?_
                      refine t_getr (tq := 41) C h t_147 hu0 (by decide) wf_40 rfl fl_X4_13 dX4_clearsBy_178 (fun q21 tq21 => ?_)
                      refine lv_iload hx hb dX4_clearsBy_181 (lv_at hl 4 rfl) ?_
                      refine t_aaldA C h t_147 (g := 6) rfl tq21 (by decide) wf_41 (iv_in i5 (by decide)) dX4_clearsBy_183 (fun q22 tq22 => ?_)
                      refine lv_aload hx hb dX4_clearsBy_184 (lv_at hl 3 rfl) ?_
                      refine lv_iload_n hx hb dX4_clearsBy_186 rfl (lv_at hl 2 rfl) ?_
                      obtain ⟨_, r23⟩ := t_rec t_147 hu0 (by decide) wf_40
                      refine k_v (r_V C h hl (As := [.ref q22, .ref v113_4, .int u2]) (rest := []) (s_X4_clear l D G b0 τ f_147 t_147 u0 hu0 q22 tq22 v113_4 tv113_4 u2 hu2) r23 (Cn := RX4) (T := TX4) (N := 4) rfl rfl mk_X4_clear w_813 w_815 w_21 w_816 ⟨Nat.le_of_ble_eq_true rfl, Nat.le_of_ble_eq_true rfl⟩ rfl (Nat.le_of_ble_eq_true rfl) ⟨Nat.le_of_ble_eq_true rfl, Nat.le_of_ble_eq_true rfl⟩ rfl dX4_clearsBy_187) h (fun f25 H locs p26 h => ?_)
                      obtain ⟨tf25, ogf25⟩ := p26
                      have of25 : Fr [40, 41, 42, 40004] τ f f25 := Fr.tr o_147 ogf25 (by decide) (by decide)
                      refine i_inc hx hb dX4_clearsBy_190 hl (k := 4) rfl i5 rfl (lo := 1) (hi := 32) (by decide) (by decide) (lv' := fun v => [(7, .int v), (0, .ref u0), (1, .int u1), (2, .int u2), (4, .ref v113_4)]) (fun _ => rfl) (fun z27 ls ez27 mz27 iz27 hl => ?_)
                      refine lv_goto (tgt := 147) hx hb dX4_clearsBy_193 (by decide) ?_
                      exact ih147 ls f25 H locs z27 (show 32 - z27.toInt < _ by omega) (lv_cons hl 1 rfl (lv_cons hl 2 rfl (lv_cons hl 3 rfl (lv_cons hl 4 rfl (lv_cons hl 0 rfl (lv_nil hl)))))) h tf25 of25 (iv_w iz27 (by decide))
            refine lv_iload hx hb dX4_clearsBy_113 (lv_at hl 5 rfl) ?_
            refine lv_aload_n hx hb dX4_clearsBy_115 rfl (lv_at hl 0 rfl) ?_
            refine t_geti C h t_113 hu0 (by decide) wf_40 rfl fl_X4_29 dX4_clearsBy_116 (fun z28 iz28 => ?_)
            refine lv_icmp_ge (tgt := 144) hx hb dX4_clearsBy_119 (by decide) (fun c29 => ?_) (fun c29 => ?_)
            · have c30 : z28.toInt ≤ v113_7.toInt := Int32.le_iff_toInt_le.mp c29
              refine lv_iconst (v := 0) hx hb dX4_clearsBy_144 (by decide) ?_
              refine lv_istore (lv' := [(7, .int 0), (0, .ref u0), (1, .int u1), (2, .int u2), (4, .ref v113_4), (5, .long v113_5)]) hx hb dX4_clearsBy_145 hl (by decide) rfl (fun ls hl => ?_)
              exact L147 33 ls f_113 H locs 0 (by decide) (lv_cons hl 1 rfl (lv_cons hl 2 rfl (lv_cons hl 3 rfl (lv_cons hl 4 rfl (lv_cons hl 0 rfl (lv_nil hl)))))) h t_113 o_113 ⟨by decide, by decide⟩
            · have c31 : v113_7.toInt < z28.toInt := Int32.lt_iff_toInt_lt.mp (iv_nle c29)
              have i32 : iv v113_7 0 27 := iv_Ll c31 iv113_7 iz28 (by decide)
              have i33 : iv z28 1 28 := iv_Lr c31 iv113_7 iz28 (by decide)
              refine lv_aload hx hb dX4_clearsBy_122 (lv_at hl 3 rfl) ?_
              refine lv_iload hx hb dX4_clearsBy_124 (lv_at hl 5 rfl) ?_
              refine lv_aload hx hb dX4_clearsBy_126 (lv_at hl 3 rfl) ?_
              refine lv_iload hx hb dX4_clearsBy_128 (lv_at hl 5 rfl) ?_
              refine t_lald C h t_113 tv113_4 (by decide) wf_42 (iv_in i32 (by decide)) dX4_clearsBy_130 (fun w34 => ?_)
              refine lv_lload hx hb dX4_clearsBy_131 (lv_at hl 4 rfl) ?_
              refine k_i (r_SN C h hl (host := "QuarterWalks") (As := [.long w34, .long v113_5]) (rest := [.int v113_7, .ref v113_4]) (s_X10_times l D G b0 τ f_113 t_113 w34 v113_5) mk_X10_times (by decide) w_807 w_808 ⟨Nat.le_of_ble_eq_true rfl, Nat.le_of_ble_eq_true rfl⟩ rfl (Nat.le_of_ble_eq_true rfl) ⟨Nat.le_of_ble_eq_true rfl, Nat.le_of_ble_eq_true rfl⟩ rfl dX4_clearsBy_133) h (fun r35 f36 H locs p37 h => ?_)
              obtain ⟨ir35, tf36, ogf36⟩ := p37
              have egf36 := Fr.nil2 ogf36
              subst egf36
              refine lv_i2l hx hb dX4_clearsBy_136 rfl (i_topL ir35 (fun w38 ew38 mw38 iw38 => ?_))
              refine t_last C h t_113 o_113 tv113_4 (by decide) (by decide) wf_42 fw_42 (iv_in i32 (by decide)) dX4_clearsBy_137 (fun f39 H locs h tf39 of39 hq => ?_)
              refine i_inc hx hb dX4_clearsBy_138 hl (k := 5) rfl i32 rfl (lo := 1) (hi := 28) (by decide) (by decide) (lv' := fun v => [(7, .int v), (0, .ref u0), (1, .int u1), (2, .int u2), (4, .ref v113_4), (5, .long v113_5)]) (fun _ => rfl) (fun z40 ls ez40 mz40 iz40 hl => ?_)
              refine lv_goto (tgt := 113) hx hb dX4_clearsBy_141 (by decide) ?_
              exact ih113 ls f39 H locs v113_4 v113_5 z40 (show 28 - z40.toInt < _ by omega) (lv_cons hl 1 rfl (lv_cons hl 2 rfl (lv_cons hl 3 rfl (lv_cons hl 4 rfl (lv_cons hl 5 rfl (lv_cons hl 0 rfl (lv_nil hl))))))) h tf39 of39 tv113_4 (ivl_w iv113_5 (by decide)) (iv_w iz40 (by decide))
        refine lv_iload_n hx hb dX4_clearsBy_29 rfl (lv_at hl 3 rfl) ?_
        refine lv_aload_n hx hb dX4_clearsBy_30 rfl (lv_at hl 0 rfl) ?_
        refine t_geti C h t_29 hu0 (by decide) wf_40 rfl fl_X4_25 dX4_clearsBy_31 (fun z41 iz41 => ?_)
        refine lv_icmp_lt (tgt := 39) hx hb dX4_clearsBy_34 (by decide) (fun c42 => ?_) (fun c42 => ?_)
        · have c43 : v2_3.toInt < z41.toInt := Int32.lt_iff_toInt_lt.mp c42
          have i44 : iv v2_3 0 31 := iv_Ll c43 iv2_3 iz41 (by decide)
          have i45 : iv z41 1 32 := iv_Lr c43 iv2_3 iz41 (by decide)
          refine lv_aload_n hx hb dX4_clearsBy_39 rfl (lv_at hl 0 rfl) ?_
          refine t_getr (tq := 41) C h t_29 hu0 (by decide) wf_40 rfl fl_X4_13 dX4_clearsBy_40 (fun q47 tq47 => ?_)
          refine lv_iload_n hx hb dX4_clearsBy_43 rfl (lv_at hl 3 rfl) ?_
          refine t_aaldA C h t_29 (g := 6) rfl tq47 (by decide) wf_41 (iv_in i44 (by decide)) dX4_clearsBy_44 (fun q48 tq48 => ?_)
          refine lv_astore (lv' := [(4, .ref q48), (0, .ref u0), (1, .int u1), (2, .int u2), (3, .int v2_3)]) hx hb dX4_clearsBy_45 hl (by decide) rfl (fun ls hl => ?_)
          refine lv_aload_n hx hb dX4_clearsBy_47 rfl (lv_at hl 1 rfl) ?_
          refine t_getr (tq := 41) C h t_29 hu0 (by decide) wf_40 rfl fl_X4_13 dX4_clearsBy_48 (fun q49 tq49 => ?_)
          refine lv_iload_n hx hb dX4_clearsBy_51 rfl (lv_at hl 4 rfl) ?_
          refine lv_aload_n hx hb dX4_clearsBy_52 rfl (lv_at hl 1 rfl) ?_
          refine t_getr (tq := 41) C h t_29 hu0 (by decide) wf_40 rfl fl_X4_13 dX4_clearsBy_53 (fun q50 tq50 => ?_)
          refine lv_iload_n hx hb dX4_clearsBy_56 rfl (lv_at hl 2 rfl) ?_
          refine t_aaldA C h t_29 (g := 6) rfl tq50 (by decide) wf_41 (ix_o (by omega)) dX4_clearsBy_57 (fun q51 tq51 => ?_)
          refine t_aastA C h t_29 o_29 tq49 (by decide) (iv_in i44 (by decide)) tq51 dX4_clearsBy_58 (fun f52 H locs h tf52 of52 hq => ?_)
          refine lv_aload_n hx hb dX4_clearsBy_59 rfl (lv_at hl 1 rfl) ?_
          refine t_getr (tq := 41) C h tf52 hu0 (by decide) wf_40 rfl fl_X4_13 dX4_clearsBy_60 (fun q53 tq53 => ?_)
          refine lv_iload_n hx hb dX4_clearsBy_63 rfl (lv_at hl 2 rfl) ?_
          refine lv_aload hx hb dX4_clearsBy_64 (lv_at hl 0 rfl) ?_
          refine t_aastA C h tf52 of52 tq53 (by decide) (ix_o (by omega)) tq48 dX4_clearsBy_66 (fun f54 H locs h tf54 of54 hq => ?_)
          refine lv_aload_n hx hb dX4_clearsBy_67 rfl (lv_at hl 1 rfl) ?_
          refine lv_aload_n hx hb dX4_clearsBy_68 rfl (lv_at hl 1 rfl) ?_
          refine t_geti C h tf54 hu0 (by decide) wf_40 rfl fl_X4_32 dX4_clearsBy_69 (fun z55 iz55 => ?_)
          refine lv_i2l hx hb dX4_clearsBy_72 rfl (i_topL iz55 (fun w56 ew56 mw56 iw56 => ?_))
          refine lv_iload_n hx hb dX4_clearsBy_73 rfl (lv_at hl 4 rfl) ?_
          refine lv_iload_n hx hb dX4_clearsBy_74 rfl (lv_at hl 2 rfl) ?_
          refine lv_icmp_ne (tgt := 85) hx hb dX4_clearsBy_75 (by decide) (fun c57 => ?_) (fun c57 => ?_)
          · have c58 : v2_3.toInt ≠ u1.toInt := fun z_ => c57 (Int32.toInt_inj.mp z_)
            refine lv_ldc2 (v := 1000003) hx hb hown (hts _ w_805) dX4_clearsBy_85 ?_
            refine lv_aload hx hb dX4_clearsBy_88 (lv_at hl 0 rfl) ?_
            refine lv_iload_n hx hb dX4_clearsBy_90 rfl (lv_at hl 3 rfl) ?_
            refine t_lald C h tf54 tq48 (by decide) wf_42 (iv_in hu2 (by decide)) dX4_clearsBy_91 (fun w61 => ?_)
            refine lv_lsub hx hb dX4_clearsBy_92 (lv_topl (fun w62 ew62 => ?_))
            refine k_i (r_SN C h hl (host := "QuarterWalks") (As := [.long w56, .long w62]) (rest := [.ref u0]) (s_X10_times l D G b0 τ f54 tf54 w56 w62) mk_X10_times (by decide) w_807 w_808 ⟨Nat.le_of_ble_eq_true rfl, Nat.le_of_ble_eq_true rfl⟩ rfl (Nat.le_of_ble_eq_true rfl) ⟨Nat.le_of_ble_eq_true rfl, Nat.le_of_ble_eq_true rfl⟩ rfl dX4_clearsBy_93) h (fun r63 f64 H locs p65 h => ?_)
            obtain ⟨ir63, tf64, ogf64⟩ := p65
            have egf64 := Fr.nil2 ogf64
            subst egf64
            refine t_put C h tf54 of54 hu0 (by decide) (by decide) (by decide) wf_40 fw_40 (k := 3) rfl flw_X4_32 (Or.inr ⟨_, _, _, rfl, rfl⟩) (v := .int r63) rfl rfl ⟨_, rfl, (iv_w ir63 (by decide))⟩ dX4_clearsBy_96 (fun f66 H locs h tf66 of66 hq ha_ hn_ hk_ => ?_)
            have k67 := ha_
            refine lv_aload hx hb dX4_clearsBy_99 (lv_at hl 0 rfl) ?_
            refine lv_iload_n hx hb dX4_clearsBy_101 rfl (lv_at hl 3 rfl) ?_
            refine t_lald C h tf66 tq48 (by decide) wf_42 (iv_in hu2 (by decide)) dX4_clearsBy_102 (fun w68 => ?_)
            refine lv_l2i hx hb dX4_clearsBy_103 rfl (i_top (iv_any _) (fun z69 ez69 iz69 => ?_))
            refine k_i (r_SN C h hl (host := "QuarterWalks") (As := [.int z69]) (rest := []) (s_X10_inverse l D G b0 τ f66 tf66 z69 iz69) mk_X10_inverse (by decide) w_810 w_811 ⟨Nat.le_of_ble_eq_true rfl, Nat.le_of_ble_eq_true rfl⟩ rfl (Nat.le_of_ble_eq_true rfl) ⟨Nat.le_of_ble_eq_true rfl, Nat.le_of_ble_eq_true rfl⟩ rfl dX4_clearsBy_104) h (fun r70 f71 H locs p72 h => ?_)
            obtain ⟨ir70, tf71, ogf71⟩ := p72
            have egf71 := Fr.nil2 ogf71
            subst egf71
            refine lv_i2l hx hb dX4_clearsBy_107 rfl (i_topL ir70 (fun w73 ew73 mw73 iw73 => ?_))
            refine lv_lstore (lv' := [(5, .long w73), (4, .ref q48), (0, .ref u0), (1, .int u1), (2, .int u2), (3, .int v2_3)]) hx hb dX4_clearsBy_108 hl (by decide) rfl (fun ls hl => ?_)
            refine lv_iload_n hx hb dX4_clearsBy_110 rfl (lv_at hl 4 rfl) ?_
            refine lv_istore (lv' := [(7, .int u2), (5, .long w73), (4, .ref q48), (0, .ref u0), (1, .int u1), (2, .int u2), (3, .int v2_3)]) hx hb dX4_clearsBy_111 hl (by decide) rfl (fun ls hl => ?_)
            exact L113 29 ls f66 H locs q48 w73 u2 (show 28 - u2.toInt < _ by omega) (lv_cons hl 3 rfl (lv_cons hl 4 rfl (lv_cons hl 5 rfl (lv_cons hl 2 rfl (lv_cons hl 1 rfl (lv_cons hl 0 rfl (lv_nil hl))))))) h tf66 of66 tq48 (ivl_w iw73 (by decide)) (iv_w hu2 (by decide))
          · have c59 : v2_3.toInt = u1.toInt := congrArg Int32.toInt c57
            have i60 : iv u1 0 31 := iv_Q c59.symm hu1 i44 (by decide)
            refine lv_aload hx hb dX4_clearsBy_78 (lv_at hl 0 rfl) ?_
            refine lv_iload_n hx hb dX4_clearsBy_80 rfl (lv_at hl 3 rfl) ?_
            refine t_lald C h tf54 tq48 (by decide) wf_42 (iv_in hu2 (by decide)) dX4_clearsBy_81 (fun w74 => ?_)
            refine lv_goto (tgt := 93) hx hb dX4_clearsBy_82 (by decide) ?_
            refine k_i (r_SN C h hl (host := "QuarterWalks") (As := [.long w56, .long w74]) (rest := [.ref u0]) (s_X10_times l D G b0 τ f54 tf54 w56 w74) mk_X10_times (by decide) w_807 w_808 ⟨Nat.le_of_ble_eq_true rfl, Nat.le_of_ble_eq_true rfl⟩ rfl (Nat.le_of_ble_eq_true rfl) ⟨Nat.le_of_ble_eq_true rfl, Nat.le_of_ble_eq_true rfl⟩ rfl dX4_clearsBy_93) h (fun r75 f76 H locs p77 h => ?_)
            obtain ⟨ir75, tf76, ogf76⟩ := p77
            have egf76 := Fr.nil2 ogf76
            subst egf76
            refine t_put C h tf54 of54 hu0 (by decide) (by decide) (by decide) wf_40 fw_40 (k := 3) rfl flw_X4_32 (Or.inr ⟨_, _, _, rfl, rfl⟩) (v := .int r75) rfl rfl ⟨_, rfl, (iv_w ir75 (by decide))⟩ dX4_clearsBy_96 (fun f78 H locs h tf78 of78 hq ha_ hn_ hk_ => ?_)
            have k79 := ha_
            refine lv_aload hx hb dX4_clearsBy_99 (lv_at hl 0 rfl) ?_
            refine lv_iload_n hx hb dX4_clearsBy_101 rfl (lv_at hl 3 rfl) ?_
            refine t_lald C h tf78 tq48 (by decide) wf_42 (iv_in hu2 (by decide)) dX4_clearsBy_102 (fun w80 => ?_)
            refine lv_l2i hx hb dX4_clearsBy_103 rfl (i_top (iv_any _) (fun z81 ez81 iz81 => ?_))
            refine k_i (r_SN C h hl (host := "QuarterWalks") (As := [.int z81]) (rest := []) (s_X10_inverse l D G b0 τ f78 tf78 z81 iz81) mk_X10_inverse (by decide) w_810 w_811 ⟨Nat.le_of_ble_eq_true rfl, Nat.le_of_ble_eq_true rfl⟩ rfl (Nat.le_of_ble_eq_true rfl) ⟨Nat.le_of_ble_eq_true rfl, Nat.le_of_ble_eq_true rfl⟩ rfl dX4_clearsBy_104) h (fun r82 f83 H locs p84 h => ?_)
            obtain ⟨ir82, tf83, ogf83⟩ := p84
            have egf83 := Fr.nil2 ogf83
            subst egf83
            refine lv_i2l hx hb dX4_clearsBy_107 rfl (i_topL ir82 (fun w85 ew85 mw85 iw85 => ?_))
            refine lv_lstore (lv' := [(5, .long w85), (4, .ref q48), (0, .ref u0), (1, .int u1), (2, .int u2), (3, .int v2_3)]) hx hb dX4_clearsBy_108 hl (by decide) rfl (fun ls hl => ?_)
            refine lv_iload_n hx hb dX4_clearsBy_110 rfl (lv_at hl 4 rfl) ?_
            refine lv_istore (lv' := [(7, .int u2), (5, .long w85), (4, .ref q48), (0, .ref u0), (1, .int u1), (2, .int u2), (3, .int v2_3)]) hx hb dX4_clearsBy_111 hl (by decide) rfl (fun ls hl => ?_)
            exact L113 29 ls f78 H locs q48 w85 u2 (show 28 - u2.toInt < _ by omega) (lv_cons hl 3 rfl (lv_cons hl 4 rfl (lv_cons hl 5 rfl (lv_cons hl 2 rfl (lv_cons hl 1 rfl (lv_cons hl 0 rfl (lv_nil hl))))))) h tf78 of78 tq48 (ivl_w iw85 (by decide)) (iv_w hu2 (by decide))
        · have c46 : z41.toInt ≤ v2_3.toInt := Int32.le_iff_toInt_le.mp (iv_nlt c42)
          refine lv_iconst (v := 0) hx hb dX4_clearsBy_37 (by decide) ?_
          exact u_zret C h hr hQ ⟨by decide, by decide⟩ (⟨⟨by decide, by decide⟩, t_29, o_29⟩) (Nat.le_of_ble_eq_true rfl) (Nat.le_of_ble_eq_true rfl) dX4_clearsBy_38
      refine lv_iload_n hx hb dX4_clearsBy_2 rfl (lv_at hl 3 rfl) ?_
      refine lv_aload_n hx hb dX4_clearsBy_3 rfl (lv_at hl 0 rfl) ?_
      refine t_geti C h t_2 hu0 (by decide) wf_40 rfl fl_X4_25 dX4_clearsBy_4 (fun z86 iz86 => ?_)
      refine lv_icmp_ge (tgt := 29) hx hb dX4_clearsBy_7 (by decide) (fun c87 => ?_) (fun c87 => ?_)
      · have c88 : z86.toInt ≤ v2_3.toInt := Int32.le_iff_toInt_le.mp c87
        exact L29 ls f_2 H locs (lv_cons hl 0 rfl (lv_cons hl 1 rfl (lv_cons hl 2 rfl (lv_cons hl 3 rfl (lv_nil hl))))) h t_2 o_2 (show u1.toInt ≤ v2_3.toInt by omega)
      · have c89 : v2_3.toInt < z86.toInt := Int32.lt_iff_toInt_lt.mp (iv_nle c87)
        have i90 : iv v2_3 0 31 := iv_Ll c89 iv2_3 iz86 (by decide)
        have i91 : iv z86 1 32 := iv_Lr c89 iv2_3 iz86 (by decide)
        refine lv_aload_n hx hb dX4_clearsBy_10 rfl (lv_at hl 0 rfl) ?_
        refine t_getr (tq := 41) C h t_2 hu0 (by decide) wf_40 rfl fl_X4_13 dX4_clearsBy_11 (fun q92 tq92 => ?_)
        refine lv_iload_n hx hb dX4_clearsBy_14 rfl (lv_at hl 3 rfl) ?_
        refine t_aaldA C h t_2 (g := 6) rfl tq92 (by decide) wf_41 (iv_in i90 (by decide)) dX4_clearsBy_15 (fun q93 tq93 => ?_)
        refine lv_iload_n hx hb dX4_clearsBy_16 rfl (lv_at hl 2 rfl) ?_
        refine t_lald C h t_2 tq93 (by decide) wf_42 (iv_in hu2 (by decide)) dX4_clearsBy_17 (fun w94 => ?_)
        refine lv_lconst (v := 0) hx hb dX4_clearsBy_18 (by decide) ?_
        refine W.lcmp hx hb dX4_clearsBy_19 (i_topc (fun z95 ez95 mz95 iz95 => ?_))
        refine lv_if_ne (tgt := 29) hx hb dX4_clearsBy_20 (by decide) (fun c96 => ?_) (fun c96 => ?_)
        · have c97 : z95.toInt ≠ 0 := fun z_ => c96 (Int32.toInt_inj.mp z_)
          exact L29 ls f_2 H locs (lv_cons hl 0 rfl (lv_cons hl 1 rfl (lv_cons hl 2 rfl (lv_cons hl 3 rfl (lv_nil hl))))) h t_2 o_2 (show u1.toInt ≤ v2_3.toInt by omega)
        · have c98 : z95.toInt = 0 := congrArg Int32.toInt c96
          have i99 : iv z95 0 0 := iv_Q c98 iz95 (iv_k (x := 0) (k := 0) rfl) (by decide)
          refine i_inc hx hb dX4_clearsBy_23 hl (k := 3) rfl i90 rfl (lo := 1) (hi := 32) (by decide) (by decide) (lv' := fun v => [(3, .int v), (0, .ref u0), (1, .int u1), (2, .int u2)]) (fun _ => rfl) (fun z100 ls ez100 mz100 iz100 hl => ?_)
          refine lv_goto (tgt := 2) hx hb dX4_clearsBy_26 (by decide) ?_
          exact ih2 ls f_2 H locs z100 (show 32 - z100.toInt < _ by omega) (lv_cons hl 1 rfl (lv_cons hl 2 rfl (lv_cons hl 3 rfl (lv_cons hl 0 rfl (lv_nil hl))))) h t_2 o_2 (iv_w iz100 (by decide)) (show u1.toInt ≤ z100.toInt by omega)
  refine lv_iload_n hx hb dX4_clearsBy_0 rfl (lv_at hl 1 rfl) ?_
  refine lv_istore_n (lv' := [(3, .int u1), (0, .ref u0), (1, .int u1), (2, .int u2)]) hx hb dX4_clearsBy_1 rfl hl (by decide) rfl (fun ls hl => ?_)
  exact L2 33 ls f s.heap [] u1 (show 32 - u1.toInt < _ by omega) (lv_cons hl 1 rfl (lv_cons hl 2 rfl (lv_cons hl 3 rfl (lv_cons hl 0 rfl (lv_nil hl))))) h t o hu1 (show u1.toInt ≤ u1.toInt by omega)
abbrev rm_s_X4_pivots : Room := { frames := 2, cells := 0, slots := 0, locals := 53 }
set_option maxRecDepth 100000 in
set_option maxHeartbeats 4000000 in
theorem s_X4_pivots (l : Launch) (D : va_G) (G : Nat → Nat) (b0 : Nat) (τ : Nat → Nat) (f : hM) (t : TI G 9 τ f) (u0 : Nat) (hu0 : τ u0 = 40) : mI l yX4_pivots cX4_pivots 3 (.int) rm_s_X4_pivots D G b0 f [.ref u0] (fun r f1 => iv r 0 28 ∧ TI G 9 τ f1 ∧ Fr [40, 41, 42, 40004] τ f f1) := by
  refine met2 (own := RX4) (by decide) rfl (Nat.le_of_ble_eq_true rfl) ?_
  intro p e s m args below meth c ls Q hQ C hr hini hl h
  have hl : lv_has ls 3 [(0, .ref u0)] := hl
  obtain ⟨hx, hb, hml, hown, hts, hE0, hlk⟩ := id C
  have o := Fr.rf [40, 41, 42, 40004] τ f
  have L4 : ∀ (n4 : Nat) (ls : Array Slot) (f_4 : hM) (H : Heap) (locs : List Loc) (v4_1 : Int32) (v4_2 : Int32), 28 - v4_2.toInt < (n4 : Int) → lv_has ls 3 [(0, .ref u0), (1, .int v4_1), (2, .int v4_2)] → hw D b0 s.heap f_4 H locs → TI G 9 τ f_4 → Fr [40, 41, 42, 40004] τ f f_4 → iv v4_1 0 28 → iv v4_2 0 28 → v4_1.toInt ≤ v4_2.toInt → W p l e rm_s_X4_pivots s m args below meth c H locs 0 0 Q (F0 m 4 ls []) := by
    intro n4
    induction n4 with
    | zero => intro ls f_4 H locs v4_1 v4_2 hm4 hl h t_4 o_4 iv4_1 iv4_2 hv4_0; exact absurd hm4 (by omega)
    | succ n4 ih4 =>
      intro ls f_4 H locs v4_1 v4_2 hm4 hl h t_4 o_4 iv4_1 iv4_2 hv4_0
      refine lv_iload_n hx hb dX4_pivots_4 rfl (lv_at hl 2 rfl) ?_
      refine lv_aload_n hx hb dX4_pivots_5 rfl (lv_at hl 0 rfl) ?_
      refine t_geti C h t_4 hu0 (by decide) wf_40 rfl fl_X4_29 dX4_pivots_6 (fun z1 iz1 => ?_)
      refine lv_icmp_ge (tgt := 30) hx hb dX4_pivots_9 (by decide) (fun c2 => ?_) (fun c2 => ?_)
      · have c3 : z1.toInt ≤ v4_2.toInt := Int32.le_iff_toInt_le.mp c2
        refine lv_iload_n hx hb dX4_pivots_30 rfl (lv_at hl 1 rfl) ?_
        exact u_iret C h hr hQ (⟨iv4_1, t_4, o_4⟩) (Nat.le_of_ble_eq_true rfl) (Nat.le_of_ble_eq_true rfl) dX4_pivots_31
      · have c4 : v4_2.toInt < z1.toInt := Int32.lt_iff_toInt_lt.mp (iv_nle c2)
        have i5 : iv v4_2 0 27 := iv_Ll c4 iv4_2 iz1 (by decide)
        have i6 : iv z1 1 28 := iv_Lr c4 iv4_2 iz1 (by decide)
        refine lv_aload_n hx hb dX4_pivots_12 rfl (lv_at hl 0 rfl) ?_
        refine lv_iload_n hx hb dX4_pivots_13 rfl (lv_at hl 1 rfl) ?_
        refine lv_iload_n hx hb dX4_pivots_14 rfl (lv_at hl 2 rfl) ?_
        obtain ⟨_, r7⟩ := t_rec t_4 hu0 (by decide) wf_40
        refine k_i (r_V C h hl (As := [.int v4_1, .int v4_2]) (rest := []) (s_X4_clearsBy l D G b0 τ f_4 t_4 u0 hu0 v4_1 (iv_w iv4_1 (by decide)) v4_2 i5) r7 (Cn := RX4) (T := TX4) (N := 4) rfl rfl mk_X4_clearsBy w_801 w_803 w_20 w_804 ⟨Nat.le_of_ble_eq_true rfl, Nat.le_of_ble_eq_true rfl⟩ rfl (Nat.le_of_ble_eq_true rfl) ⟨Nat.le_of_ble_eq_true rfl, Nat.le_of_ble_eq_true rfl⟩ rfl dX4_pivots_15) h (fun r8 f9 H locs p10 h => ?_)
        obtain ⟨ir8, tf9, ogf9⟩ := p10
        have of9 : Fr [40, 41, 42, 40004] τ f f9 := Fr.tr o_4 ogf9 (by decide) (by decide)
        refine lv_if_eq (tgt := 24) hx hb dX4_pivots_18 (by decide) (fun c11 => ?_) (fun c11 => ?_)
        · have c12 : r8.toInt = 0 := congrArg Int32.toInt c11
          have i13 : iv r8 0 0 := iv_Q c12 ir8 (iv_k (x := 0) (k := 0) rfl) (by decide)
          refine i_inc hx hb dX4_pivots_24 hl (k := 2) rfl i5 rfl (lo := 1) (hi := 28) (by decide) (by decide) (lv' := fun v => [(2, .int v), (0, .ref u0), (1, .int v4_1)]) (fun _ => rfl) (fun z16 ls ez16 mz16 iz16 hl => ?_)
          refine lv_goto (tgt := 4) hx hb dX4_pivots_27 (by decide) ?_
          exact ih4 ls f9 H locs v4_1 z16 (show 28 - z16.toInt < _ by omega) (lv_cons hl 1 rfl (lv_cons hl 2 rfl (lv_cons hl 0 rfl (lv_nil hl)))) h tf9 of9 iv4_1 (iv_w iz16 (by decide)) (show v4_1.toInt ≤ z16.toInt by omega)
        · have c14 : r8.toInt ≠ 0 := fun z_ => c11 (Int32.toInt_inj.mp z_)
          have i15 : iv r8 1 1 := iv_Nl c14 ir8 (by decide)
          refine i_inc hx hb dX4_pivots_21 hl (k := 1) rfl iv4_1 rfl (lo := 1) (hi := 29) (by decide) (by decide) (lv' := fun v => [(1, .int v), (0, .ref u0), (2, .int v4_2)]) (fun _ => rfl) (fun z17 ls ez17 mz17 iz17 hl => ?_)
          refine i_inc hx hb dX4_pivots_24 hl (k := 2) rfl i5 rfl (lo := 1) (hi := 28) (by decide) (by decide) (lv' := fun v => [(2, .int v), (1, .int z17), (0, .ref u0)]) (fun _ => rfl) (fun z18 ls ez18 mz18 iz18 hl => ?_)
          refine lv_goto (tgt := 4) hx hb dX4_pivots_27 (by decide) ?_
          exact ih4 ls f9 H locs z17 z18 (show 28 - z18.toInt < _ by omega) (lv_cons hl 2 rfl (lv_cons hl 1 rfl (lv_cons hl 0 rfl (lv_nil hl)))) h tf9 of9 (show iv z17 0 28 from by omega) (iv_w iz18 (by decide)) (show z17.toInt ≤ z18.toInt by omega)
  refine lv_iconst (v := 0) hx hb dX4_pivots_0 (by decide) ?_
  refine lv_istore_n (lv' := [(1, .int 0), (0, .ref u0)]) hx hb dX4_pivots_1 rfl hl (by decide) rfl (fun ls hl => ?_)
  refine lv_iconst (v := 0) hx hb dX4_pivots_2 (by decide) ?_
  refine lv_istore_n (lv' := [(2, .int 0), (1, .int 0), (0, .ref u0)]) hx hb dX4_pivots_3 rfl hl (by decide) rfl (fun ls hl => ?_)
  exact L4 29 ls f s.heap [] 0 0 (by decide) (lv_cons hl 2 rfl (lv_cons hl 1 rfl (lv_cons hl 0 rfl (lv_nil hl)))) h t o ⟨by decide, by decide⟩ ⟨by decide, by decide⟩ (show 0 ≤ 0 by omega)
abbrev rm_s_X4_determinant : Room := { frames := 2, cells := 0, slots := 0, locals := 53 }
set_option maxRecDepth 100000 in
set_option maxHeartbeats 4000000 in
theorem s_X4_determinant (l : Launch) (D : va_G) (G : Nat → Nat) (b0 : Nat) (τ : Nat → Nat) (f : hM) (t : TI G 9 τ f) (u0 : Nat) (hu0 : τ u0 = 40) : mI l yX4_determinant cX4_determinant 2 (.int) rm_s_X4_determinant D G b0 f [.ref u0] (fun r f1 => iv r (-2147483648) 2147483647 ∧ TI G 9 τ f1 ∧ Fr [40, 41, 42, 40004] τ f f1) := by
  refine met2 (own := RX4) (by decide) rfl (Nat.le_of_ble_eq_true rfl) ?_
  intro p e s m args below meth c ls Q hQ C hr hini hl h
  have hl : lv_has ls 2 [(0, .ref u0)] := hl
  obtain ⟨hx, hb, hml, hown, hts, hE0, hlk⟩ := id C
  have o := Fr.rf [40, 41, 42, 40004] τ f
  have L2 : ∀ (n2 : Nat) (ls : Array Slot) (f_2 : hM) (H : Heap) (locs : List Loc) (v2_1 : Int32), 28 - v2_1.toInt < (n2 : Int) → lv_has ls 2 [(0, .ref u0), (1, .int v2_1)] → hw D b0 s.heap f_2 H locs → TI G 9 τ f_2 → Fr [40, 41, 42, 40004] τ f f_2 → iv v2_1 0 28 → W p l e rm_s_X4_determinant s m args below meth c H locs 0 0 Q (F0 m 2 ls []) := by
    intro n2
    induction n2 with
    | zero => intro ls f_2 H locs v2_1 hm2 hl h t_2 o_2 iv2_1; exact absurd hm2 (by omega)
    | succ n2 ih2 =>
      intro ls f_2 H locs v2_1 hm2 hl h t_2 o_2 iv2_1
      refine lv_iload_n hx hb dX4_determinant_2 rfl (lv_at hl 1 rfl) ?_
      refine lv_aload_n hx hb dX4_determinant_3 rfl (lv_at hl 0 rfl) ?_
      refine t_geti C h t_2 hu0 (by decide) wf_40 rfl fl_X4_29 dX4_determinant_4 (fun z1 iz1 => ?_)
      refine lv_icmp_ge (tgt := 27) hx hb dX4_determinant_7 (by decide) (fun c2 => ?_) (fun c2 => ?_)
      · have c3 : z1.toInt ≤ v2_1.toInt := Int32.le_iff_toInt_le.mp c2
        refine lv_aload_n hx hb dX4_determinant_27 rfl (lv_at hl 0 rfl) ?_
        refine t_geti C h t_2 hu0 (by decide) wf_40 rfl fl_X4_32 dX4_determinant_28 (fun z7 iz7 => ?_)
        exact u_iret C h hr hQ (⟨iz7, t_2, o_2⟩) (Nat.le_of_ble_eq_true rfl) (Nat.le_of_ble_eq_true rfl) dX4_determinant_31
      · have c4 : v2_1.toInt < z1.toInt := Int32.lt_iff_toInt_lt.mp (iv_nle c2)
        have i5 : iv v2_1 0 27 := iv_Ll c4 iv2_1 iz1 (by decide)
        have i6 : iv z1 1 28 := iv_Lr c4 iv2_1 iz1 (by decide)
        refine lv_aload_n hx hb dX4_determinant_10 rfl (lv_at hl 0 rfl) ?_
        refine lv_iload_n hx hb dX4_determinant_11 rfl (lv_at hl 1 rfl) ?_
        refine lv_iload_n hx hb dX4_determinant_12 rfl (lv_at hl 1 rfl) ?_
        obtain ⟨_, r8⟩ := t_rec t_2 hu0 (by decide) wf_40
        refine k_i (r_V C h hl (As := [.int v2_1, .int v2_1]) (rest := []) (s_X4_clearsBy l D G b0 τ f_2 t_2 u0 hu0 v2_1 (iv_w i5 (by decide)) v2_1 i5) r8 (Cn := RX4) (T := TX4) (N := 4) rfl rfl mk_X4_clearsBy w_801 w_803 w_20 w_804 ⟨Nat.le_of_ble_eq_true rfl, Nat.le_of_ble_eq_true rfl⟩ rfl (Nat.le_of_ble_eq_true rfl) ⟨Nat.le_of_ble_eq_true rfl, Nat.le_of_ble_eq_true rfl⟩ rfl dX4_determinant_13) h (fun r9 f10 H locs p11 h => ?_)
        obtain ⟨ir9, tf10, ogf10⟩ := p11
        have of10 : Fr [40, 41, 42, 40004] τ f f10 := Fr.tr o_2 ogf10 (by decide) (by decide)
        refine lv_if_ne (tgt := 21) hx hb dX4_determinant_16 (by decide) (fun c12 => ?_) (fun c12 => ?_)
        · have c13 : r9.toInt ≠ 0 := fun z_ => c12 (Int32.toInt_inj.mp z_)
          have i14 : iv r9 1 1 := iv_Nl c13 ir9 (by decide)
          refine i_inc hx hb dX4_determinant_21 hl (k := 1) rfl i5 rfl (lo := 1) (hi := 28) (by decide) (by decide) (lv' := fun v => [(1, .int v), (0, .ref u0)]) (fun _ => rfl) (fun z17 ls ez17 mz17 iz17 hl => ?_)
          refine lv_goto (tgt := 2) hx hb dX4_determinant_24 (by decide) ?_
          exact ih2 ls f10 H locs z17 (show 28 - z17.toInt < _ by omega) (lv_cons hl 1 rfl (lv_cons hl 0 rfl (lv_nil hl))) h tf10 of10 (iv_w iz17 (by decide))
        · have c15 : r9.toInt = 0 := congrArg Int32.toInt c12
          have i16 : iv r9 0 0 := iv_Q c15 ir9 (iv_k (x := 0) (k := 0) rfl) (by decide)
          refine lv_iconst (v := 0) hx hb dX4_determinant_19 (by decide) ?_
          exact u_iret C h hr hQ (⟨⟨by decide, by decide⟩, tf10, of10⟩) (Nat.le_of_ble_eq_true rfl) (Nat.le_of_ble_eq_true rfl) dX4_determinant_20
  refine lv_iconst (v := 0) hx hb dX4_determinant_0 (by decide) ?_
  refine lv_istore_n (lv' := [(1, .int 0), (0, .ref u0)]) hx hb dX4_determinant_1 rfl hl (by decide) rfl (fun ls hl => ?_)
  exact L2 29 ls f s.heap [] 0 (by decide) (lv_cons hl 1 rfl (lv_cons hl 0 rfl (lv_nil hl))) h t o ⟨by decide, by decide⟩
abbrev rm_s_X4_firstMadeUp : Room := { frames := 2, cells := 0, slots := 0, locals := 53 }
set_option maxRecDepth 100000 in
set_option maxHeartbeats 4000000 in
theorem s_X4_firstMadeUp (l : Launch) (D : va_G) (G : Nat → Nat) (b0 : Nat) (τ : Nat → Nat) (f : hM) (t : TI G 9 τ f) (u0 : Nat) (hu0 : τ u0 = 40) : mI l yX4_firstMadeUp cX4_firstMadeUp 2 (.int) rm_s_X4_firstMadeUp D G b0 f [.ref u0] (fun r f1 => iv r (-1) 27 ∧ TI G 9 τ f1 ∧ Fr [40, 41, 42, 40004] τ f f1) := by
  refine met2 (own := RX4) (by decide) rfl (Nat.le_of_ble_eq_true rfl) ?_
  intro p e s m args below meth c ls Q hQ C hr hini hl h
  have hl : lv_has ls 2 [(0, .ref u0)] := hl
  obtain ⟨hx, hb, hml, hown, hts, hE0, hlk⟩ := id C
  have o := Fr.rf [40, 41, 42, 40004] τ f
  have L2 : ∀ (n2 : Nat) (ls : Array Slot) (f_2 : hM) (H : Heap) (locs : List Loc) (v2_1 : Int32), 28 - v2_1.toInt < (n2 : Int) → lv_has ls 2 [(0, .ref u0), (1, .int v2_1)] → hw D b0 s.heap f_2 H locs → TI G 9 τ f_2 → Fr [40, 41, 42, 40004] τ f f_2 → iv v2_1 0 28 → W p l e rm_s_X4_firstMadeUp s m args below meth c H locs 0 0 Q (F0 m 2 ls []) := by
    intro n2
    induction n2 with
    | zero => intro ls f_2 H locs v2_1 hm2 hl h t_2 o_2 iv2_1; exact absurd hm2 (by omega)
    | succ n2 ih2 =>
      intro ls f_2 H locs v2_1 hm2 hl h t_2 o_2 iv2_1
      refine lv_iload_n hx hb dX4_firstMadeUp_2 rfl (lv_at hl 1 rfl) ?_
      refine lv_aload_n hx hb dX4_firstMadeUp_3 rfl (lv_at hl 0 rfl) ?_
      refine t_geti C h t_2 hu0 (by decide) wf_40 rfl fl_X4_29 dX4_firstMadeUp_4 (fun z1 iz1 => ?_)
      refine lv_icmp_ge (tgt := 27) hx hb dX4_firstMadeUp_7 (by decide) (fun c2 => ?_) (fun c2 => ?_)
      · have c3 : z1.toInt ≤ v2_1.toInt := Int32.le_iff_toInt_le.mp c2
        refine lv_iconst (v := -1) hx hb dX4_firstMadeUp_27 (by decide) ?_
        exact u_iret C h hr hQ (⟨⟨by decide, by decide⟩, t_2, o_2⟩) (Nat.le_of_ble_eq_true rfl) (Nat.le_of_ble_eq_true rfl) dX4_firstMadeUp_28
      · have c4 : v2_1.toInt < z1.toInt := Int32.lt_iff_toInt_lt.mp (iv_nle c2)
        have i5 : iv v2_1 0 27 := iv_Ll c4 iv2_1 iz1 (by decide)
        have i6 : iv z1 1 28 := iv_Lr c4 iv2_1 iz1 (by decide)
        refine lv_aload_n hx hb dX4_firstMadeUp_10 rfl (lv_at hl 0 rfl) ?_
        refine lv_iload_n hx hb dX4_firstMadeUp_11 rfl (lv_at hl 1 rfl) ?_
        refine lv_iload_n hx hb dX4_firstMadeUp_12 rfl (lv_at hl 1 rfl) ?_
        obtain ⟨_, r7⟩ := t_rec t_2 hu0 (by decide) wf_40
        refine k_i (r_V C h hl (As := [.int v2_1, .int v2_1]) (rest := []) (s_X4_clearsBy l D G b0 τ f_2 t_2 u0 hu0 v2_1 (iv_w i5 (by decide)) v2_1 i5) r7 (Cn := RX4) (T := TX4) (N := 4) rfl rfl mk_X4_clearsBy w_801 w_803 w_20 w_804 ⟨Nat.le_of_ble_eq_true rfl, Nat.le_of_ble_eq_true rfl⟩ rfl (Nat.le_of_ble_eq_true rfl) ⟨Nat.le_of_ble_eq_true rfl, Nat.le_of_ble_eq_true rfl⟩ rfl dX4_firstMadeUp_13) h (fun r8 f9 H locs p10 h => ?_)
        obtain ⟨ir8, tf9, ogf9⟩ := p10
        have of9 : Fr [40, 41, 42, 40004] τ f f9 := Fr.tr o_2 ogf9 (by decide) (by decide)
        refine lv_if_ne (tgt := 21) hx hb dX4_firstMadeUp_16 (by decide) (fun c11 => ?_) (fun c11 => ?_)
        · have c12 : r8.toInt ≠ 0 := fun z_ => c11 (Int32.toInt_inj.mp z_)
          have i13 : iv r8 1 1 := iv_Nl c12 ir8 (by decide)
          refine i_inc hx hb dX4_firstMadeUp_21 hl (k := 1) rfl i5 rfl (lo := 1) (hi := 28) (by decide) (by decide) (lv' := fun v => [(1, .int v), (0, .ref u0)]) (fun _ => rfl) (fun z16 ls ez16 mz16 iz16 hl => ?_)
          refine lv_goto (tgt := 2) hx hb dX4_firstMadeUp_24 (by decide) ?_
          exact ih2 ls f9 H locs z16 (show 28 - z16.toInt < _ by omega) (lv_cons hl 1 rfl (lv_cons hl 0 rfl (lv_nil hl))) h tf9 of9 (iv_w iz16 (by decide))
        · have c14 : r8.toInt = 0 := congrArg Int32.toInt c11
          have i15 : iv r8 0 0 := iv_Q c14 ir8 (iv_k (x := 0) (k := 0) rfl) (by decide)
          refine lv_iload_n hx hb dX4_firstMadeUp_19 rfl (lv_at hl 1 rfl) ?_
          exact u_iret C h hr hQ (⟨(iv_w i5 (by decide)), tf9, of9⟩) (Nat.le_of_ble_eq_true rfl) (Nat.le_of_ble_eq_true rfl) dX4_firstMadeUp_20
  refine lv_iconst (v := 0) hx hb dX4_firstMadeUp_0 (by decide) ?_
  refine lv_istore_n (lv' := [(1, .int 0), (0, .ref u0)]) hx hb dX4_firstMadeUp_1 rfl hl (by decide) rfl (fun ls hl => ?_)
  exact L2 29 ls f s.heap [] 0 (by decide) (lv_cons hl 1 rfl (lv_cons hl 0 rfl (lv_nil hl))) h t o ⟨by decide, by decide⟩
