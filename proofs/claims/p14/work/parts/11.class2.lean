theorem dX10_at_0 : decode cX10_at 0 = .ok (.aload_n 0, 1) := by decide +kernel
theorem dX10_at_1 : decode cX10_at 1 = .ok (.getfield 19, 3) := by decide +kernel
theorem w_389 : Cond.laysFinal "QuarterWalks" "QuarterWalks" "tape" "LQuarterWalks$Tape;" ∈ wAll := wI2 54 (by decide +kernel) (by decide +kernel)
theorem w_391 : Cond.laysFinal "QuarterWalks" "QuarterWalks" "book" "LQuarterWalks$Book;" ∈ wAll := wI2 56 (by decide +kernel) (by decide +kernel)
theorem w_393 : Cond.laysFinal "QuarterWalks" "QuarterWalks" "grid" "LQuarterWalks$Grid;" ∈ wAll := wI2 58 (by decide +kernel) (by decide +kernel)
theorem w_395 : Cond.laysFinal "QuarterWalks" "QuarterWalks" "ways" "LQuarterWalks$Ways;" ∈ wAll := wI2 60 (by decide +kernel) (by decide +kernel)
theorem w_397 : Cond.laysFinal "QuarterWalks" "QuarterWalks" "turns" "LQuarterWalks$Turns;" ∈ wAll := wI2 62 (by decide +kernel) (by decide +kernel)
theorem w_399 : Cond.laysFinal "QuarterWalks" "QuarterWalks" "matrix" "LQuarterWalks$Matrix;" ∈ wAll := wI2 64 (by decide +kernel) (by decide +kernel)
theorem w_401 : Cond.laysFinal "QuarterWalks" "QuarterWalks" "guess" "LQuarterWalks$Guess;" ∈ wAll := wI2 66 (by decide +kernel) (by decide +kernel)
theorem w_403 : Cond.laysFinal "QuarterWalks" "QuarterWalks" "refused" "[I" ∈ wAll := wI2 68 (by decide +kernel) (by decide +kernel)
theorem w_405 : Cond.laysFinal "QuarterWalks" "QuarterWalks" "scratch" "[J" ∈ wAll := wI2 70 (by decide +kernel) (by decide +kernel)
theorem w_407 : Cond.laysFinal "QuarterWalks" "QuarterWalks" "script" "Ljava/lang/StringBuilder;" ∈ wAll := wI2 72 (by decide +kernel) (by decide +kernel)
theorem inA_X10 : ∀ w ∈ u_ws RX10 TX10 10, w ∈ wAll := List.forall_mem_cons.mpr ⟨w_389, List.forall_mem_cons.mpr ⟨w_391, List.forall_mem_cons.mpr ⟨w_393, List.forall_mem_cons.mpr ⟨w_395, List.forall_mem_cons.mpr ⟨w_397, List.forall_mem_cons.mpr ⟨w_399, List.forall_mem_cons.mpr ⟨w_401, List.forall_mem_cons.mpr ⟨w_403, List.forall_mem_cons.mpr ⟨w_405, List.forall_mem_cons.mpr ⟨w_407, fun _ h => absurd h List.not_mem_nil⟩⟩⟩⟩⟩⟩⟩⟩⟩⟩
theorem w_380 : Cond.fieldLink "QuarterWalks" 19 "QuarterWalks" "book" "LQuarterWalks$Book;" ∈ wAll := wI2 45 (by decide +kernel) (by decide +kernel)
theorem fl_X10_19 : fl RX10 19 11 1 := ⟨RX10, TX10, 10, rfl, inA_X10, by decide, w_380⟩
theorem dX10_at_4 : decode cX10_at 4 = .ok (.iload_n 2, 1) := by decide +kernel
theorem dX10_at_5 : decode cX10_at 5 = .ok (.invokevirtual 110, 3) := by decide +kernel
theorem w_594 : Cond.methodLink "QuarterWalks" 110 yX0_find ∈ wAll := wI3 19 (by decide +kernel) (by decide +kernel)
theorem w_596 : Cond.selects yX0_find.cls yX0_find yX0_find ∈ wAll := wI3 21 (by decide +kernel) (by decide +kernel)
theorem w_98 : Cond.initialized "QuarterWalks$Book" ∈ wAll := wI1 3 (by decide +kernel) (by decide +kernel)
theorem mk_X0_find : mk yX0_find 1 := ⟨by decide +kernel, w_98⟩
theorem w_595 : Cond.instanceMethod yX0_find ∈ wAll := wI3 20 (by decide +kernel) (by decide +kernel)
theorem w_597 : Cond.code yX0_find cX0_find 2 (some (.object "QuarterWalks$StepSet")) ∈ wAll := wI3 22 (by decide +kernel) (by decide +kernel)
theorem dX10_at_8 : decode cX10_at 8 = .ok (.astore 6, 2) := by decide +kernel
theorem dX10_at_10 : decode cX10_at 10 = .ok (.aload 6, 2) := by decide +kernel
theorem dX10_at_12 : decode cX10_at 12 = .ok (.ifnull 29, 3) := by decide +kernel
theorem dX10_at_41 : decode cX10_at 41 = .ok (.iconst (-1), 1) := by decide +kernel
theorem dX10_at_15 : decode cX10_at 15 = .ok (.iload_n 1, 1) := by decide +kernel
theorem dX10_at_16 : decode cX10_at 16 = .ok (.iconst 0, 1) := by decide +kernel
theorem dX10_at_17 : decode cX10_at 17 = .ok (.iconst 2, 1) := by decide +kernel
theorem dX10_at_18 : decode cX10_at 18 = .ok (.invokestatic 87, 3) := by decide +kernel
theorem dX10_at_21 : decode cX10_at 21 = .ok (.ifCond .eq 20, 3) := by decide +kernel
theorem dX10_at_24 : decode cX10_at 24 = .ok (.iload_n 3, 1) := by decide +kernel
theorem dX10_at_25 : decode cX10_at 25 = .ok (.invokestatic 179, 3) := by decide +kernel
theorem w_653 : Cond.methodLink "QuarterWalks" 179 yX10_isLength ∈ wAll := wI3 78 (by decide +kernel) (by decide +kernel)
theorem mk_X10_isLength : mk yX10_isLength 1 := ⟨by decide +kernel, w_96⟩
theorem w_654 : Cond.static yX10_isLength ∈ wAll := wI3 79 (by decide +kernel) (by decide +kernel)
theorem w_655 : Cond.code yX10_isLength cX10_isLength 1 (some .boolean) ∈ wAll := wI3 80 (by decide +kernel) (by decide +kernel)
theorem dX10_at_28 : decode cX10_at 28 = .ok (.ifCond .eq 13, 3) := by decide +kernel
theorem dX10_at_31 : decode cX10_at 31 = .ok (.iload 4, 2) := by decide +kernel
theorem dX10_at_33 : decode cX10_at 33 = .ok (.iload 5, 2) := by decide +kernel
theorem dX10_at_35 : decode cX10_at 35 = .ok (.invokestatic 183, 3) := by decide +kernel
theorem w_656 : Cond.methodLink "QuarterWalks" 183 yX10_isNear ∈ wAll := wI3 81 (by decide +kernel) (by decide +kernel)
theorem mk_X10_isNear : mk yX10_isNear 2 := ⟨by decide +kernel, w_96⟩
theorem w_657 : Cond.static yX10_isNear ∈ wAll := wI3 82 (by decide +kernel) (by decide +kernel)
theorem w_658 : Cond.code yX10_isNear cX10_isNear 2 (some .boolean) ∈ wAll := wI3 83 (by decide +kernel) (by decide +kernel)
theorem dX10_at_38 : decode cX10_at 38 = .ok (.ifCond .ne 5, 3) := by decide +kernel
theorem dX10_at_43 : decode cX10_at 43 = .ok (.aload_n 0, 1) := by decide +kernel
theorem dX10_at_44 : decode cX10_at 44 = .ok (.getfield 26, 3) := by decide +kernel
theorem w_381 : Cond.fieldLink "QuarterWalks" 26 "QuarterWalks" "grid" "LQuarterWalks$Grid;" ∈ wAll := wI2 46 (by decide +kernel) (by decide +kernel)
theorem fl_X10_26 : fl RX10 26 11 2 := ⟨RX10, TX10, 10, rfl, inA_X10, by decide, w_381⟩
theorem dX10_at_47 : decode cX10_at 47 = .ok (.aload 6, 2) := by decide +kernel
theorem dX10_at_49 : decode cX10_at 49 = .ok (.iconst 0, 1) := by decide +kernel
theorem dX10_at_50 : decode cX10_at 50 = .ok (.iload_n 1, 1) := by decide +kernel
theorem dX10_at_51 : decode cX10_at 51 = .ok (.iload_n 3, 1) := by decide +kernel
theorem dX10_at_52 : decode cX10_at 52 = .ok (.invokevirtual 187, 3) := by decide +kernel
theorem w_659 : Cond.methodLink "QuarterWalks" 187 yX2_go ∈ wAll := wI3 84 (by decide +kernel) (by decide +kernel)
theorem w_661 : Cond.selects yX2_go.cls yX2_go yX2_go ∈ wAll := wI3 86 (by decide +kernel) (by decide +kernel)
theorem mk_X2_go : mk yX2_go 4 := ⟨by decide +kernel, w_100⟩
theorem w_660 : Cond.instanceMethod yX2_go ∈ wAll := wI3 85 (by decide +kernel) (by decide +kernel)
theorem w_662 : Cond.code yX2_go cX2_go 5 none ∈ wAll := wI3 87 (by decide +kernel) (by decide +kernel)
theorem dX10_at_55 : decode cX10_at 55 = .ok (.aload_n 0, 1) := by decide +kernel
theorem dX10_at_56 : decode cX10_at 56 = .ok (.getfield 26, 3) := by decide +kernel
theorem dX10_at_59 : decode cX10_at 59 = .ok (.iload 4, 2) := by decide +kernel
theorem dX10_at_61 : decode cX10_at 61 = .ok (.iload 5, 2) := by decide +kernel
theorem dX10_at_63 : decode cX10_at 63 = .ok (.invokevirtual 191, 3) := by decide +kernel
theorem w_709 : Cond.methodLink "QuarterWalks" 191 yX2_seen ∈ wAll := wI3 134 (by decide +kernel) (by decide +kernel)
theorem dX10_at_66 : decode cX10_at 66 = .ok (.l2i, 1) := by decide +kernel
theorem dX10_at_42 : decode cX10_at 42 = .ok (.ireturn, 1) := by decide +kernel
theorem dX10_at_67 : decode cX10_at 67 = .ok (.ireturn, 1) := by decide +kernel
theorem dX10_exact_0 : decode cX10_exact 0 = .ok (.aload_n 0, 1) := by decide +kernel
theorem dX10_exact_1 : decode cX10_exact 1 = .ok (.getfield 19, 3) := by decide +kernel
theorem dX10_exact_4 : decode cX10_exact 4 = .ok (.iload_n 1, 1) := by decide +kernel
theorem dX10_exact_5 : decode cX10_exact 5 = .ok (.invokevirtual 110, 3) := by decide +kernel
theorem dX10_exact_8 : decode cX10_exact 8 = .ok (.astore 5, 2) := by decide +kernel
theorem dX10_exact_10 : decode cX10_exact 10 = .ok (.aload 5, 2) := by decide +kernel
theorem dX10_exact_12 : decode cX10_exact 12 = .ok (.ifnull 31, 3) := by decide +kernel
theorem dX10_exact_43 : decode cX10_exact 43 = .ok (.ldc2_w 205, 3) := by decide +kernel
theorem w_757 : Cond.constantLong "QuarterWalks" 205 (-1) ∈ wAll := wI3 182 (by decide +kernel) (by decide +kernel)
theorem dX10_exact_15 : decode cX10_exact 15 = .ok (.iload_n 2, 1) := by decide +kernel
theorem dX10_exact_16 : decode cX10_exact 16 = .ok (.invokestatic 179, 3) := by decide +kernel
theorem dX10_exact_19 : decode cX10_exact 19 = .ok (.ifCond .eq 24, 3) := by decide +kernel
theorem dX10_exact_22 : decode cX10_exact 22 = .ok (.iload_n 3, 1) := by decide +kernel
theorem dX10_exact_23 : decode cX10_exact 23 = .ok (.iload 4, 2) := by decide +kernel
theorem dX10_exact_25 : decode cX10_exact 25 = .ok (.invokestatic 183, 3) := by decide +kernel
theorem dX10_exact_28 : decode cX10_exact 28 = .ok (.ifCond .eq 15, 3) := by decide +kernel
theorem dX10_exact_31 : decode cX10_exact 31 = .ok (.aload 5, 2) := by decide +kernel
theorem dX10_exact_33 : decode cX10_exact 33 = .ok (.invokevirtual 149, 3) := by decide +kernel
theorem w_636 : Cond.methodLink "QuarterWalks" 149 yX6_weightTotal ∈ wAll := wI3 61 (by decide +kernel) (by decide +kernel)
theorem w_638 : Cond.selects yX6_weightTotal.cls yX6_weightTotal yX6_weightTotal ∈ wAll := wI3 63 (by decide +kernel) (by decide +kernel)
theorem mk_X6_weightTotal : mk yX6_weightTotal 0 := ⟨by decide +kernel, w_115⟩
theorem w_637 : Cond.instanceMethod yX6_weightTotal ∈ wAll := wI3 62 (by decide +kernel) (by decide +kernel)
theorem w_639 : Cond.code yX6_weightTotal cX6_weightTotal 6 (some .int) ∈ wAll := wI3 64 (by decide +kernel) (by decide +kernel)
theorem dX10_exact_36 : decode cX10_exact 36 = .ok (.iload_n 2, 1) := by decide +kernel
theorem dX10_exact_37 : decode cX10_exact 37 = .ok (.invokestatic 202, 3) := by decide +kernel
theorem w_753 : Cond.methodLink "QuarterWalks" 202 yX10_fitsLong ∈ wAll := wI3 178 (by decide +kernel) (by decide +kernel)
theorem mk_X10_fitsLong : mk yX10_fitsLong 2 := ⟨by decide +kernel, w_96⟩
theorem w_754 : Cond.static yX10_fitsLong ∈ wAll := wI3 179 (by decide +kernel) (by decide +kernel)
theorem w_755 : Cond.code yX10_fitsLong cX10_fitsLong 5 (some .boolean) ∈ wAll := wI3 180 (by decide +kernel) (by decide +kernel)
theorem dX10_exact_40 : decode cX10_exact 40 = .ok (.ifCond .ne 7, 3) := by decide +kernel
theorem dX10_exact_47 : decode cX10_exact 47 = .ok (.aload_n 0, 1) := by decide +kernel
theorem dX10_exact_48 : decode cX10_exact 48 = .ok (.getfield 26, 3) := by decide +kernel
theorem dX10_exact_51 : decode cX10_exact 51 = .ok (.aload 5, 2) := by decide +kernel
theorem dX10_exact_53 : decode cX10_exact 53 = .ok (.iconst 1, 1) := by decide +kernel
theorem dX10_exact_54 : decode cX10_exact 54 = .ok (.iconst 0, 1) := by decide +kernel
theorem dX10_exact_55 : decode cX10_exact 55 = .ok (.iload_n 2, 1) := by decide +kernel
theorem dX10_exact_56 : decode cX10_exact 56 = .ok (.invokevirtual 187, 3) := by decide +kernel
theorem dX10_exact_59 : decode cX10_exact 59 = .ok (.aload_n 0, 1) := by decide +kernel
theorem dX10_exact_60 : decode cX10_exact 60 = .ok (.getfield 26, 3) := by decide +kernel
theorem dX10_exact_63 : decode cX10_exact 63 = .ok (.iload_n 3, 1) := by decide +kernel
theorem dX10_exact_64 : decode cX10_exact 64 = .ok (.iload 4, 2) := by decide +kernel
theorem dX10_exact_66 : decode cX10_exact 66 = .ok (.invokevirtual 191, 3) := by decide +kernel
theorem dX10_exact_46 : decode cX10_exact 46 = .ok (.lreturn, 1) := by decide +kernel
theorem dX10_exact_69 : decode cX10_exact 69 = .ok (.lreturn, 1) := by decide +kernel
theorem dX10_reflected_0 : decode cX10_reflected 0 = .ok (.aload_n 0, 1) := by decide +kernel
theorem dX10_reflected_1 : decode cX10_reflected 1 = .ok (.getfield 19, 3) := by decide +kernel
theorem dX10_reflected_4 : decode cX10_reflected 4 = .ok (.iload_n 1, 1) := by decide +kernel
theorem dX10_reflected_5 : decode cX10_reflected 5 = .ok (.invokevirtual 110, 3) := by decide +kernel
theorem dX10_reflected_8 : decode cX10_reflected 8 = .ok (.astore 5, 2) := by decide +kernel
theorem dX10_reflected_10 : decode cX10_reflected 10 = .ok (.aload 5, 2) := by decide +kernel
theorem dX10_reflected_12 : decode cX10_reflected 12 = .ok (.ifnull 31, 3) := by decide +kernel
theorem dX10_reflected_43 : decode cX10_reflected 43 = .ok (.ldc 218, 2) := by decide +kernel
theorem w_772 : Cond.constant "QuarterWalks" 218 (-1000000) ∈ wAll := wI3 197 (by decide +kernel) (by decide +kernel)
theorem dX10_reflected_15 : decode cX10_reflected 15 = .ok (.iload_n 2, 1) := by decide +kernel
theorem dX10_reflected_16 : decode cX10_reflected 16 = .ok (.invokestatic 179, 3) := by decide +kernel
theorem dX10_reflected_19 : decode cX10_reflected 19 = .ok (.ifCond .eq 24, 3) := by decide +kernel
theorem dX10_reflected_22 : decode cX10_reflected 22 = .ok (.iload_n 3, 1) := by decide +kernel
theorem dX10_reflected_23 : decode cX10_reflected 23 = .ok (.iconst 0, 1) := by decide +kernel
theorem dX10_reflected_24 : decode cX10_reflected 24 = .ok (.bipush 60, 2) := by decide +kernel
theorem dX10_reflected_26 : decode cX10_reflected 26 = .ok (.invokestatic 87, 3) := by decide +kernel
theorem dX10_reflected_29 : decode cX10_reflected 29 = .ok (.ifCond .eq 14, 3) := by decide +kernel
theorem dX10_reflected_32 : decode cX10_reflected 32 = .ok (.iload 4, 2) := by decide +kernel
theorem dX10_reflected_34 : decode cX10_reflected 34 = .ok (.iconst 0, 1) := by decide +kernel
theorem dX10_reflected_35 : decode cX10_reflected 35 = .ok (.bipush 60, 2) := by decide +kernel
theorem dX10_reflected_37 : decode cX10_reflected 37 = .ok (.invokestatic 87, 3) := by decide +kernel
theorem dX10_reflected_40 : decode cX10_reflected 40 = .ok (.ifCond .ne 6, 3) := by decide +kernel
theorem dX10_reflected_46 : decode cX10_reflected 46 = .ok (.aload 5, 2) := by decide +kernel
theorem dX10_reflected_48 : decode cX10_reflected 48 = .ok (.getstatic 219, 3) := by decide +kernel
theorem w_773 : Cond.fieldLink "QuarterWalks" 219 "QuarterWalks" "X_LESS" "[I" ∈ wAll := wI3 198 (by decide +kernel) (by decide +kernel)
theorem dX10_reflected_51 : decode cX10_reflected 51 = .ok (.invokevirtual 222, 3) := by decide +kernel
theorem w_775 : Cond.methodLink "QuarterWalks" 222 yX6_isSameBy ∈ wAll := wI3 200 (by decide +kernel) (by decide +kernel)
theorem w_777 : Cond.selects yX6_isSameBy.cls yX6_isSameBy yX6_isSameBy ∈ wAll := wI3 202 (by decide +kernel) (by decide +kernel)
theorem mk_X6_isSameBy : mk yX6_isSameBy 1 := ⟨by decide +kernel, w_115⟩
theorem w_776 : Cond.instanceMethod yX6_isSameBy ∈ wAll := wI3 201 (by decide +kernel) (by decide +kernel)
theorem w_778 : Cond.code yX6_isSameBy cX6_isSameBy 3 (some .boolean) ∈ wAll := wI3 203 (by decide +kernel) (by decide +kernel)
theorem dX10_reflected_54 : decode cX10_reflected 54 = .ok (.ifCond .eq 14, 3) := by decide +kernel
theorem dX10_reflected_68 : decode cX10_reflected 68 = .ok (.ldc 218, 2) := by decide +kernel
theorem dX10_reflected_57 : decode cX10_reflected 57 = .ok (.aload 5, 2) := by decide +kernel
theorem dX10_reflected_59 : decode cX10_reflected 59 = .ok (.getstatic 225, 3) := by decide +kernel
theorem w_779 : Cond.fieldLink "QuarterWalks" 225 "QuarterWalks" "Y_LESS" "[I" ∈ wAll := wI3 204 (by decide +kernel) (by decide +kernel)
theorem dX10_reflected_62 : decode cX10_reflected 62 = .ok (.invokevirtual 222, 3) := by decide +kernel
theorem dX10_reflected_65 : decode cX10_reflected 65 = .ok (.ifCond .ne 6, 3) := by decide +kernel
theorem dX10_reflected_71 : decode cX10_reflected 71 = .ok (.aload_n 0, 1) := by decide +kernel
theorem dX10_reflected_72 : decode cX10_reflected 72 = .ok (.getfield 26, 3) := by decide +kernel
theorem dX10_reflected_75 : decode cX10_reflected 75 = .ok (.aload 5, 2) := by decide +kernel
theorem dX10_reflected_77 : decode cX10_reflected 77 = .ok (.iconst 0, 1) := by decide +kernel
theorem dX10_reflected_78 : decode cX10_reflected 78 = .ok (.iconst 2, 1) := by decide +kernel
theorem dX10_reflected_79 : decode cX10_reflected 79 = .ok (.iload_n 2, 1) := by decide +kernel
theorem dX10_reflected_80 : decode cX10_reflected 80 = .ok (.invokevirtual 187, 3) := by decide +kernel
theorem dX10_reflected_83 : decode cX10_reflected 83 = .ok (.aload_n 0, 1) := by decide +kernel
theorem dX10_reflected_84 : decode cX10_reflected 84 = .ok (.getfield 26, 3) := by decide +kernel
theorem dX10_reflected_87 : decode cX10_reflected 87 = .ok (.iload_n 3, 1) := by decide +kernel
theorem dX10_reflected_88 : decode cX10_reflected 88 = .ok (.iload 4, 2) := by decide +kernel
theorem dX10_reflected_90 : decode cX10_reflected 90 = .ok (.invokevirtual 191, 3) := by decide +kernel
theorem dX10_reflected_93 : decode cX10_reflected 93 = .ok (.aload_n 0, 1) := by decide +kernel
theorem dX10_reflected_94 : decode cX10_reflected 94 = .ok (.getfield 26, 3) := by decide +kernel
theorem dX10_reflected_97 : decode cX10_reflected 97 = .ok (.iload_n 3, 1) := by decide +kernel
theorem dX10_reflected_98 : decode cX10_reflected 98 = .ok (.ineg, 1) := by decide +kernel
theorem dX10_reflected_99 : decode cX10_reflected 99 = .ok (.iconst 2, 1) := by decide +kernel
theorem dX10_reflected_100 : decode cX10_reflected 100 = .ok (.isub, 1) := by decide +kernel
theorem dX10_reflected_101 : decode cX10_reflected 101 = .ok (.iload 4, 2) := by decide +kernel
theorem dX10_reflected_103 : decode cX10_reflected 103 = .ok (.ineg, 1) := by decide +kernel
theorem dX10_reflected_104 : decode cX10_reflected 104 = .ok (.iconst 2, 1) := by decide +kernel
theorem dX10_reflected_105 : decode cX10_reflected 105 = .ok (.isub, 1) := by decide +kernel
theorem dX10_reflected_106 : decode cX10_reflected 106 = .ok (.invokevirtual 191, 3) := by decide +kernel
theorem dX10_reflected_109 : decode cX10_reflected 109 = .ok (.ladd, 1) := by decide +kernel
theorem dX10_reflected_110 : decode cX10_reflected 110 = .ok (.lstore 6, 2) := by decide +kernel
theorem dX10_reflected_112 : decode cX10_reflected 112 = .ok (.aload_n 0, 1) := by decide +kernel
theorem dX10_reflected_113 : decode cX10_reflected 113 = .ok (.getfield 26, 3) := by decide +kernel
theorem dX10_reflected_116 : decode cX10_reflected 116 = .ok (.iload_n 3, 1) := by decide +kernel
theorem dX10_reflected_117 : decode cX10_reflected 117 = .ok (.ineg, 1) := by decide +kernel
theorem dX10_reflected_118 : decode cX10_reflected 118 = .ok (.iconst 2, 1) := by decide +kernel
theorem dX10_reflected_119 : decode cX10_reflected 119 = .ok (.isub, 1) := by decide +kernel
theorem dX10_reflected_120 : decode cX10_reflected 120 = .ok (.iload 4, 2) := by decide +kernel
theorem dX10_reflected_122 : decode cX10_reflected 122 = .ok (.invokevirtual 191, 3) := by decide +kernel
theorem dX10_reflected_125 : decode cX10_reflected 125 = .ok (.aload_n 0, 1) := by decide +kernel
theorem dX10_reflected_126 : decode cX10_reflected 126 = .ok (.getfield 26, 3) := by decide +kernel
theorem dX10_reflected_129 : decode cX10_reflected 129 = .ok (.iload_n 3, 1) := by decide +kernel
theorem dX10_reflected_130 : decode cX10_reflected 130 = .ok (.iload 4, 2) := by decide +kernel
theorem dX10_reflected_132 : decode cX10_reflected 132 = .ok (.ineg, 1) := by decide +kernel
theorem dX10_reflected_133 : decode cX10_reflected 133 = .ok (.iconst 2, 1) := by decide +kernel
theorem dX10_reflected_134 : decode cX10_reflected 134 = .ok (.isub, 1) := by decide +kernel
theorem dX10_reflected_135 : decode cX10_reflected 135 = .ok (.invokevirtual 191, 3) := by decide +kernel
theorem dX10_reflected_138 : decode cX10_reflected 138 = .ok (.ladd, 1) := by decide +kernel
theorem dX10_reflected_139 : decode cX10_reflected 139 = .ok (.lstore 8, 2) := by decide +kernel
theorem dX10_reflected_141 : decode cX10_reflected 141 = .ok (.lload 6, 2) := by decide +kernel
theorem dX10_reflected_143 : decode cX10_reflected 143 = .ok (.lload 8, 2) := by decide +kernel
theorem dX10_reflected_145 : decode cX10_reflected 145 = .ok (.lsub, 1) := by decide +kernel
theorem dX10_reflected_146 : decode cX10_reflected 146 = .ok (.invokestatic 228, 3) := by decide +kernel
theorem w_781 : Cond.methodLink "QuarterWalks" 228 yX10_residue ∈ wAll := wI3 206 (by decide +kernel) (by decide +kernel)
theorem dX10_reflected_45 : decode cX10_reflected 45 = .ok (.ireturn, 1) := by decide +kernel
theorem dX10_reflected_70 : decode cX10_reflected 70 = .ok (.ireturn, 1) := by decide +kernel
theorem dX10_reflected_149 : decode cX10_reflected 149 = .ok (.ireturn, 1) := by decide +kernel
theorem dX10_rank_0 : decode cX10_rank 0 = .ok (.aload_n 0, 1) := by decide +kernel
theorem dX10_rank_1 : decode cX10_rank 1 = .ok (.getfield 19, 3) := by decide +kernel
theorem dX10_rank_4 : decode cX10_rank 4 = .ok (.iload_n 1, 1) := by decide +kernel
theorem dX10_rank_5 : decode cX10_rank 5 = .ok (.invokevirtual 110, 3) := by decide +kernel
theorem dX10_rank_8 : decode cX10_rank 8 = .ok (.astore_n 3, 1) := by decide +kernel
theorem dX10_rank_9 : decode cX10_rank 9 = .ok (.aload_n 3, 1) := by decide +kernel
theorem dX10_rank_10 : decode cX10_rank 10 = .ok (.ifnull 13, 3) := by decide +kernel
theorem dX10_rank_23 : decode cX10_rank 23 = .ok (.iconst (-1), 1) := by decide +kernel
theorem dX10_rank_13 : decode cX10_rank 13 = .ok (.iload_n 2, 1) := by decide +kernel
theorem dX10_rank_14 : decode cX10_rank 14 = .ok (.iconst 0, 1) := by decide +kernel
theorem dX10_rank_15 : decode cX10_rank 15 = .ok (.bipush 12, 2) := by decide +kernel
theorem dX10_rank_17 : decode cX10_rank 17 = .ok (.invokestatic 87, 3) := by decide +kernel
theorem dX10_rank_20 : decode cX10_rank 20 = .ok (.ifCond .ne 5, 3) := by decide +kernel
theorem dX10_rank_25 : decode cX10_rank 25 = .ok (.aload_n 0, 1) := by decide +kernel
theorem dX10_rank_26 : decode cX10_rank 26 = .ok (.getfield 26, 3) := by decide +kernel
theorem dX10_rank_29 : decode cX10_rank 29 = .ok (.aload_n 3, 1) := by decide +kernel
theorem dX10_rank_30 : decode cX10_rank 30 = .ok (.iconst 0, 1) := by decide +kernel
theorem dX10_rank_31 : decode cX10_rank 31 = .ok (.iconst 0, 1) := by decide +kernel
theorem dX10_rank_32 : decode cX10_rank 32 = .ok (.iload_n 2, 1) := by decide +kernel
theorem dX10_rank_33 : decode cX10_rank 33 = .ok (.invokevirtual 187, 3) := by decide +kernel
theorem dX10_rank_36 : decode cX10_rank 36 = .ok (.aload_n 0, 1) := by decide +kernel
theorem dX10_rank_37 : decode cX10_rank 37 = .ok (.getfield 47, 3) := by decide +kernel
theorem w_384 : Cond.fieldLink "QuarterWalks" 47 "QuarterWalks" "matrix" "LQuarterWalks$Matrix;" ∈ wAll := wI2 49 (by decide +kernel) (by decide +kernel)
theorem fl_X10_47 : fl RX10 47 11 5 := ⟨RX10, TX10, 10, rfl, inA_X10, by decide, w_384⟩
theorem dX10_rank_40 : decode cX10_rank 40 = .ok (.bipush 13, 2) := by decide +kernel
theorem dX10_rank_42 : decode cX10_rank 42 = .ok (.bipush 13, 2) := by decide +kernel
theorem dX10_rank_44 : decode cX10_rank 44 = .ok (.invokevirtual 232, 3) := by decide +kernel
theorem w_786 : Cond.methodLink "QuarterWalks" 232 yX4_shape ∈ wAll := wI3 211 (by decide +kernel) (by decide +kernel)
theorem dX10_rank_47 : decode cX10_rank 47 = .ok (.iconst 0, 1) := by decide +kernel
theorem dX10_rank_48 : decode cX10_rank 48 = .ok (.istore 4, 2) := by decide +kernel
theorem dX10_rank_50 : decode cX10_rank 50 = .ok (.iload 4, 2) := by decide +kernel
theorem dX10_rank_52 : decode cX10_rank 52 = .ok (.bipush 12, 2) := by decide +kernel
theorem dX10_rank_54 : decode cX10_rank 54 = .ok (.if_icmp .gt 47, 3) := by decide +kernel
theorem dX10_rank_57 : decode cX10_rank 57 = .ok (.iconst 0, 1) := by decide +kernel
theorem dX10_rank_58 : decode cX10_rank 58 = .ok (.istore 5, 2) := by decide +kernel
theorem dX10_rank_60 : decode cX10_rank 60 = .ok (.iload 5, 2) := by decide +kernel
theorem dX10_rank_62 : decode cX10_rank 62 = .ok (.bipush 12, 2) := by decide +kernel
theorem dX10_rank_64 : decode cX10_rank 64 = .ok (.if_icmp .gt 31, 3) := by decide +kernel
theorem dX10_rank_67 : decode cX10_rank 67 = .ok (.aload_n 0, 1) := by decide +kernel
theorem dX10_rank_68 : decode cX10_rank 68 = .ok (.getfield 47, 3) := by decide +kernel
theorem dX10_rank_71 : decode cX10_rank 71 = .ok (.iload 4, 2) := by decide +kernel
theorem dX10_rank_73 : decode cX10_rank 73 = .ok (.iload 5, 2) := by decide +kernel
theorem dX10_rank_75 : decode cX10_rank 75 = .ok (.aload_n 0, 1) := by decide +kernel
theorem dX10_rank_76 : decode cX10_rank 76 = .ok (.getfield 26, 3) := by decide +kernel
theorem dX10_rank_79 : decode cX10_rank 79 = .ok (.iload 4, 2) := by decide +kernel
theorem dX10_rank_81 : decode cX10_rank 81 = .ok (.iload 5, 2) := by decide +kernel
theorem dX10_rank_83 : decode cX10_rank 83 = .ok (.invokevirtual 191, 3) := by decide +kernel
theorem dX10_rank_86 : decode cX10_rank 86 = .ok (.invokevirtual 235, 3) := by decide +kernel
theorem w_792 : Cond.methodLink "QuarterWalks" 235 yX4_put ∈ wAll := wI3 217 (by decide +kernel) (by decide +kernel)
theorem dX10_rank_89 : decode cX10_rank 89 = .ok (.iinc 5 1, 3) := by decide +kernel
theorem dX10_rank_92 : decode cX10_rank 92 = .ok (.goto (-32), 3) := by decide +kernel
theorem dX10_rank_95 : decode cX10_rank 95 = .ok (.iinc 4 1, 3) := by decide +kernel
theorem dX10_rank_98 : decode cX10_rank 98 = .ok (.goto (-48), 3) := by decide +kernel
theorem dX10_rank_101 : decode cX10_rank 101 = .ok (.aload_n 0, 1) := by decide +kernel
theorem dX10_rank_102 : decode cX10_rank 102 = .ok (.getfield 47, 3) := by decide +kernel
theorem dX10_rank_105 : decode cX10_rank 105 = .ok (.invokevirtual 239, 3) := by decide +kernel
theorem w_797 : Cond.methodLink "QuarterWalks" 239 yX4_pivots ∈ wAll := wI3 222 (by decide +kernel) (by decide +kernel)
theorem w_799 : Cond.selects yX4_pivots.cls yX4_pivots yX4_pivots ∈ wAll := wI3 224 (by decide +kernel) (by decide +kernel)
theorem mk_X4_pivots : mk yX4_pivots 0 := ⟨by decide +kernel, w_104⟩
theorem w_798 : Cond.instanceMethod yX4_pivots ∈ wAll := wI3 223 (by decide +kernel) (by decide +kernel)
theorem w_800 : Cond.code yX4_pivots cX4_pivots 3 (some .int) ∈ wAll := wI3 225 (by decide +kernel) (by decide +kernel)
theorem dX10_rank_108 : decode cX10_rank 108 = .ok (.ireturn, 1) := by decide +kernel
theorem dX10_rank_24 : decode cX10_rank 24 = .ok (.ireturn, 1) := by decide +kernel
theorem dX10_out_0 : decode cX10_out 0 = .ok (.aload_n 0, 1) := by decide +kernel
theorem dX10_out_1 : decode cX10_out 1 = .ok (.getfield 19, 3) := by decide +kernel
theorem dX10_out_4 : decode cX10_out 4 = .ok (.iload_n 1, 1) := by decide +kernel
theorem dX10_out_5 : decode cX10_out 5 = .ok (.invokevirtual 110, 3) := by decide +kernel
theorem dX10_out_8 : decode cX10_out 8 = .ok (.astore_n 3, 1) := by decide +kernel
theorem dX10_out_9 : decode cX10_out 9 = .ok (.aload_n 3, 1) := by decide +kernel
theorem dX10_out_10 : decode cX10_out 10 = .ok (.ifnull 10, 3) := by decide +kernel
theorem dX10_out_20 : decode cX10_out 20 = .ok (.iconst (-1), 1) := by decide +kernel
theorem dX10_out_13 : decode cX10_out 13 = .ok (.iload_n 2, 1) := by decide +kernel
theorem dX10_out_14 : decode cX10_out 14 = .ok (.invokestatic 179, 3) := by decide +kernel
theorem dX10_out_17 : decode cX10_out 17 = .ok (.ifCond .ne 5, 3) := by decide +kernel
theorem dX10_out_22 : decode cX10_out 22 = .ok (.aload_n 0, 1) := by decide +kernel
theorem dX10_out_23 : decode cX10_out 23 = .ok (.getfield 26, 3) := by decide +kernel
theorem dX10_out_26 : decode cX10_out 26 = .ok (.aload_n 3, 1) := by decide +kernel
theorem dX10_out_27 : decode cX10_out 27 = .ok (.iconst 0, 1) := by decide +kernel
theorem dX10_out_28 : decode cX10_out 28 = .ok (.iconst 0, 1) := by decide +kernel
theorem dX10_out_29 : decode cX10_out 29 = .ok (.iload_n 2, 1) := by decide +kernel
theorem dX10_out_30 : decode cX10_out 30 = .ok (.invokevirtual 187, 3) := by decide +kernel
theorem dX10_out_33 : decode cX10_out 33 = .ok (.aload_n 0, 1) := by decide +kernel
theorem dX10_out_34 : decode cX10_out 34 = .ok (.getfield 26, 3) := by decide +kernel
theorem dX10_out_37 : decode cX10_out 37 = .ok (.aload_n 3, 1) := by decide +kernel
theorem dX10_out_38 : decode cX10_out 38 = .ok (.invokevirtual 252, 3) := by decide +kernel
theorem w_839 : Cond.methodLink "QuarterWalks" 252 yX2_leaving ∈ wAll := wI4 24 (by decide +kernel) (by decide +kernel)
theorem w_841 : Cond.selects yX2_leaving.cls yX2_leaving yX2_leaving ∈ wAll := wI4 26 (by decide +kernel) (by decide +kernel)
theorem mk_X2_leaving : mk yX2_leaving 1 := ⟨by decide +kernel, w_100⟩
theorem w_840 : Cond.instanceMethod yX2_leaving ∈ wAll := wI4 25 (by decide +kernel) (by decide +kernel)
theorem w_842 : Cond.code yX2_leaving cX2_leaving 6 (some .int) ∈ wAll := wI4 27 (by decide +kernel) (by decide +kernel)
theorem dX10_out_21 : decode cX10_out 21 = .ok (.ireturn, 1) := by decide +kernel
theorem dX10_out_41 : decode cX10_out 41 = .ok (.ireturn, 1) := by decide +kernel
theorem dX10_value_0 : decode cX10_value 0 = .ok (.aload_n 0, 1) := by decide +kernel
theorem dX10_value_1 : decode cX10_value 1 = .ok (.getfield 19, 3) := by decide +kernel
theorem dX10_value_4 : decode cX10_value 4 = .ok (.iload_n 1, 1) := by decide +kernel
theorem dX10_value_5 : decode cX10_value 5 = .ok (.invokevirtual 110, 3) := by decide +kernel
theorem dX10_value_8 : decode cX10_value 8 = .ok (.astore 5, 2) := by decide +kernel
theorem dX10_value_10 : decode cX10_value 10 = .ok (.aload 5, 2) := by decide +kernel
theorem dX10_value_12 : decode cX10_value 12 = .ok (.ifnull 31, 3) := by decide +kernel
theorem dX10_value_43 : decode cX10_value 43 = .ok (.iconst (-1), 1) := by decide +kernel
theorem dX10_value_15 : decode cX10_value 15 = .ok (.iload_n 2, 1) := by decide +kernel
theorem dX10_value_16 : decode cX10_value 16 = .ok (.invokestatic 179, 3) := by decide +kernel
theorem dX10_value_19 : decode cX10_value 19 = .ok (.ifCond .eq 24, 3) := by decide +kernel
theorem dX10_value_22 : decode cX10_value 22 = .ok (.iload_n 3, 1) := by decide +kernel
theorem dX10_value_23 : decode cX10_value 23 = .ok (.iconst 0, 1) := by decide +kernel
theorem dX10_value_24 : decode cX10_value 24 = .ok (.ldc 255, 2) := by decide +kernel
theorem dX10_value_26 : decode cX10_value 26 = .ok (.invokestatic 87, 3) := by decide +kernel
theorem dX10_value_29 : decode cX10_value 29 = .ok (.ifCond .eq 14, 3) := by decide +kernel
theorem dX10_value_32 : decode cX10_value 32 = .ok (.iload 4, 2) := by decide +kernel
theorem dX10_value_34 : decode cX10_value 34 = .ok (.iconst 0, 1) := by decide +kernel
theorem dX10_value_35 : decode cX10_value 35 = .ok (.ldc 255, 2) := by decide +kernel
theorem dX10_value_37 : decode cX10_value 37 = .ok (.invokestatic 87, 3) := by decide +kernel
theorem dX10_value_40 : decode cX10_value 40 = .ok (.ifCond .ne 5, 3) := by decide +kernel
theorem dX10_value_45 : decode cX10_value 45 = .ok (.aload_n 0, 1) := by decide +kernel
theorem dX10_value_46 : decode cX10_value 46 = .ok (.getfield 26, 3) := by decide +kernel
theorem dX10_value_49 : decode cX10_value 49 = .ok (.aload 5, 2) := by decide +kernel
theorem dX10_value_51 : decode cX10_value 51 = .ok (.iconst 0, 1) := by decide +kernel
theorem dX10_value_52 : decode cX10_value 52 = .ok (.iconst 0, 1) := by decide +kernel
theorem dX10_value_53 : decode cX10_value 53 = .ok (.iload_n 2, 1) := by decide +kernel
theorem dX10_value_54 : decode cX10_value 54 = .ok (.invokevirtual 187, 3) := by decide +kernel
theorem dX10_value_57 : decode cX10_value 57 = .ok (.aload_n 0, 1) := by decide +kernel
theorem dX10_value_58 : decode cX10_value 58 = .ok (.getfield 26, 3) := by decide +kernel
theorem dX10_value_61 : decode cX10_value 61 = .ok (.iload_n 3, 1) := by decide +kernel
theorem dX10_value_62 : decode cX10_value 62 = .ok (.iload 4, 2) := by decide +kernel
theorem dX10_value_64 : decode cX10_value 64 = .ok (.invokevirtual 256, 3) := by decide +kernel
theorem w_856 : Cond.methodLink "QuarterWalks" 256 yX2_valueAt ∈ wAll := wI4 41 (by decide +kernel) (by decide +kernel)
theorem w_858 : Cond.selects yX2_valueAt.cls yX2_valueAt yX2_valueAt ∈ wAll := wI4 43 (by decide +kernel) (by decide +kernel)
theorem mk_X2_valueAt : mk yX2_valueAt 2 := ⟨by decide +kernel, w_100⟩
theorem w_857 : Cond.instanceMethod yX2_valueAt ∈ wAll := wI4 42 (by decide +kernel) (by decide +kernel)
theorem w_859 : Cond.code yX2_valueAt cX2_valueAt 7 (some .int) ∈ wAll := wI4 44 (by decide +kernel) (by decide +kernel)
theorem dX10_value_44 : decode cX10_value 44 = .ok (.ireturn, 1) := by decide +kernel
theorem dX10_value_67 : decode cX10_value 67 = .ok (.ireturn, 1) := by decide +kernel
theorem dX10_peak_0 : decode cX10_peak 0 = .ok (.aload_n 0, 1) := by decide +kernel
theorem dX10_peak_1 : decode cX10_peak 1 = .ok (.getfield 19, 3) := by decide +kernel
theorem dX10_peak_4 : decode cX10_peak 4 = .ok (.iload_n 1, 1) := by decide +kernel
theorem dX10_peak_5 : decode cX10_peak 5 = .ok (.invokevirtual 110, 3) := by decide +kernel
theorem dX10_peak_8 : decode cX10_peak 8 = .ok (.astore 4, 2) := by decide +kernel
theorem dX10_peak_10 : decode cX10_peak 10 = .ok (.aload 4, 2) := by decide +kernel
theorem dX10_peak_12 : decode cX10_peak 12 = .ok (.ifnull 22, 3) := by decide +kernel
theorem dX10_peak_34 : decode cX10_peak 34 = .ok (.ldc 218, 2) := by decide +kernel
theorem dX10_peak_15 : decode cX10_peak 15 = .ok (.iload_n 2, 1) := by decide +kernel
theorem dX10_peak_16 : decode cX10_peak 16 = .ok (.iconst 0, 1) := by decide +kernel
theorem dX10_peak_17 : decode cX10_peak 17 = .ok (.bipush 10, 2) := by decide +kernel
theorem dX10_peak_19 : decode cX10_peak 19 = .ok (.invokestatic 87, 3) := by decide +kernel
theorem dX10_peak_22 : decode cX10_peak 22 = .ok (.ifCond .eq 12, 3) := by decide +kernel
theorem dX10_peak_25 : decode cX10_peak 25 = .ok (.iload_n 3, 1) := by decide +kernel
theorem dX10_peak_26 : decode cX10_peak 26 = .ok (.iconst 0, 1) := by decide +kernel
theorem dX10_peak_27 : decode cX10_peak 27 = .ok (.iconst 2, 1) := by decide +kernel
theorem dX10_peak_28 : decode cX10_peak 28 = .ok (.invokestatic 87, 3) := by decide +kernel
theorem dX10_peak_31 : decode cX10_peak 31 = .ok (.ifCond .ne 6, 3) := by decide +kernel
theorem dX10_peak_37 : decode cX10_peak 37 = .ok (.aload_n 0, 1) := by decide +kernel
theorem dX10_peak_38 : decode cX10_peak 38 = .ok (.getfield 26, 3) := by decide +kernel
theorem dX10_peak_41 : decode cX10_peak 41 = .ok (.aload 4, 2) := by decide +kernel
theorem dX10_peak_43 : decode cX10_peak 43 = .ok (.iconst 2, 1) := by decide +kernel
theorem dX10_peak_44 : decode cX10_peak 44 = .ok (.iconst 0, 1) := by decide +kernel
theorem dX10_peak_45 : decode cX10_peak 45 = .ok (.iload_n 2, 1) := by decide +kernel
theorem dX10_peak_46 : decode cX10_peak 46 = .ok (.invokevirtual 187, 3) := by decide +kernel
theorem dX10_peak_49 : decode cX10_peak 49 = .ok (.aload_n 0, 1) := by decide +kernel
theorem dX10_peak_50 : decode cX10_peak 50 = .ok (.getfield 26, 3) := by decide +kernel
theorem dX10_peak_53 : decode cX10_peak 53 = .ok (.iload_n 3, 1) := by decide +kernel
theorem dX10_peak_54 : decode cX10_peak 54 = .ok (.invokevirtual 271, 3) := by decide +kernel
theorem w_900 : Cond.methodLink "QuarterWalks" 271 yX2_highest ∈ wAll := wI4 85 (by decide +kernel) (by decide +kernel)
theorem w_902 : Cond.selects yX2_highest.cls yX2_highest yX2_highest ∈ wAll := wI4 87 (by decide +kernel) (by decide +kernel)
theorem mk_X2_highest : mk yX2_highest 1 := ⟨by decide +kernel, w_100⟩
theorem w_901 : Cond.instanceMethod yX2_highest ∈ wAll := wI4 86 (by decide +kernel) (by decide +kernel)
theorem w_903 : Cond.code yX2_highest cX2_highest 8 (some .int) ∈ wAll := wI4 88 (by decide +kernel) (by decide +kernel)
theorem dX10_peak_36 : decode cX10_peak 36 = .ok (.ireturn, 1) := by decide +kernel
theorem dX10_peak_57 : decode cX10_peak 57 = .ok (.ireturn, 1) := by decide +kernel
theorem dX10_points_0 : decode cX10_points 0 = .ok (.aload_n 0, 1) := by decide +kernel
theorem dX10_points_1 : decode cX10_points 1 = .ok (.getfield 19, 3) := by decide +kernel
theorem dX10_points_4 : decode cX10_points 4 = .ok (.iload_n 1, 1) := by decide +kernel
theorem dX10_points_5 : decode cX10_points 5 = .ok (.invokevirtual 110, 3) := by decide +kernel
theorem dX10_points_8 : decode cX10_points 8 = .ok (.astore_n 3, 1) := by decide +kernel
theorem dX10_points_9 : decode cX10_points 9 = .ok (.aload_n 3, 1) := by decide +kernel
theorem dX10_points_10 : decode cX10_points 10 = .ok (.ifnull 10, 3) := by decide +kernel
theorem dX10_points_20 : decode cX10_points 20 = .ok (.iconst (-1), 1) := by decide +kernel
theorem dX10_points_13 : decode cX10_points 13 = .ok (.iload_n 2, 1) := by decide +kernel
theorem dX10_points_14 : decode cX10_points 14 = .ok (.invokestatic 179, 3) := by decide +kernel
theorem dX10_points_17 : decode cX10_points 17 = .ok (.ifCond .ne 5, 3) := by decide +kernel
theorem dX10_points_22 : decode cX10_points 22 = .ok (.aload_n 0, 1) := by decide +kernel
theorem dX10_points_23 : decode cX10_points 23 = .ok (.getfield 26, 3) := by decide +kernel
theorem dX10_points_26 : decode cX10_points 26 = .ok (.aload_n 3, 1) := by decide +kernel
theorem dX10_points_27 : decode cX10_points 27 = .ok (.iconst 3, 1) := by decide +kernel
theorem dX10_points_28 : decode cX10_points 28 = .ok (.iconst 0, 1) := by decide +kernel
theorem dX10_points_29 : decode cX10_points 29 = .ok (.iload_n 2, 1) := by decide +kernel
theorem dX10_points_30 : decode cX10_points 30 = .ok (.invokevirtual 187, 3) := by decide +kernel
theorem dX10_points_33 : decode cX10_points 33 = .ok (.aload_n 0, 1) := by decide +kernel
theorem dX10_points_34 : decode cX10_points 34 = .ok (.getfield 26, 3) := by decide +kernel
theorem dX10_points_37 : decode cX10_points 37 = .ok (.invokevirtual 274, 3) := by decide +kernel
theorem w_909 : Cond.methodLink "QuarterWalks" 274 yX2_filledCells ∈ wAll := wI4 94 (by decide +kernel) (by decide +kernel)
theorem w_911 : Cond.selects yX2_filledCells.cls yX2_filledCells yX2_filledCells ∈ wAll := wI4 96 (by decide +kernel) (by decide +kernel)
theorem mk_X2_filledCells : mk yX2_filledCells 0 := ⟨by decide +kernel, w_100⟩
theorem w_910 : Cond.instanceMethod yX2_filledCells ∈ wAll := wI4 95 (by decide +kernel) (by decide +kernel)
theorem w_912 : Cond.code yX2_filledCells cX2_filledCells 4 (some .int) ∈ wAll := wI4 97 (by decide +kernel) (by decide +kernel)
theorem dX10_points_21 : decode cX10_points 21 = .ok (.ireturn, 1) := by decide +kernel
theorem dX10_points_40 : decode cX10_points 40 = .ok (.ireturn, 1) := by decide +kernel
theorem dX10_meet_0 : decode cX10_meet 0 = .ok (.aload_n 0, 1) := by decide +kernel
theorem dX10_meet_1 : decode cX10_meet 1 = .ok (.getfield 19, 3) := by decide +kernel
theorem dX10_meet_4 : decode cX10_meet 4 = .ok (.iload_n 1, 1) := by decide +kernel
theorem dX10_meet_5 : decode cX10_meet 5 = .ok (.invokevirtual 110, 3) := by decide +kernel
theorem dX10_meet_8 : decode cX10_meet 8 = .ok (.astore 4, 2) := by decide +kernel
theorem dX10_meet_10 : decode cX10_meet 10 = .ok (.aload_n 0, 1) := by decide +kernel
theorem dX10_meet_11 : decode cX10_meet 11 = .ok (.getfield 19, 3) := by decide +kernel
theorem dX10_meet_14 : decode cX10_meet 14 = .ok (.iload_n 2, 1) := by decide +kernel
theorem dX10_meet_15 : decode cX10_meet 15 = .ok (.invokevirtual 110, 3) := by decide +kernel
theorem dX10_meet_18 : decode cX10_meet 18 = .ok (.astore 5, 2) := by decide +kernel
theorem dX10_meet_20 : decode cX10_meet 20 = .ok (.aload 4, 2) := by decide +kernel
theorem dX10_meet_22 : decode cX10_meet 22 = .ok (.ifnull 15, 3) := by decide +kernel
theorem dX10_meet_37 : decode cX10_meet 37 = .ok (.iconst (-1), 1) := by decide +kernel
theorem dX10_meet_25 : decode cX10_meet 25 = .ok (.aload 5, 2) := by decide +kernel
theorem dX10_meet_27 : decode cX10_meet 27 = .ok (.ifnull 10, 3) := by decide +kernel
theorem dX10_meet_30 : decode cX10_meet 30 = .ok (.iload_n 3, 1) := by decide +kernel
theorem dX10_meet_31 : decode cX10_meet 31 = .ok (.invokestatic 179, 3) := by decide +kernel
theorem dX10_meet_34 : decode cX10_meet 34 = .ok (.ifCond .ne 5, 3) := by decide +kernel
theorem dX10_meet_39 : decode cX10_meet 39 = .ok (.aload_n 0, 1) := by decide +kernel
theorem dX10_meet_40 : decode cX10_meet 40 = .ok (.getfield 26, 3) := by decide +kernel
theorem dX10_meet_43 : decode cX10_meet 43 = .ok (.aload 4, 2) := by decide +kernel
theorem dX10_meet_45 : decode cX10_meet 45 = .ok (.iconst 0, 1) := by decide +kernel
theorem dX10_meet_46 : decode cX10_meet 46 = .ok (.iconst 0, 1) := by decide +kernel
theorem dX10_meet_47 : decode cX10_meet 47 = .ok (.iload_n 3, 1) := by decide +kernel
theorem dX10_meet_48 : decode cX10_meet 48 = .ok (.invokevirtual 187, 3) := by decide +kernel
theorem dX10_meet_51 : decode cX10_meet 51 = .ok (.aload_n 0, 1) := by decide +kernel
theorem dX10_meet_52 : decode cX10_meet 52 = .ok (.getfield 26, 3) := by decide +kernel
theorem dX10_meet_55 : decode cX10_meet 55 = .ok (.aload_n 0, 1) := by decide +kernel
theorem dX10_meet_56 : decode cX10_meet 56 = .ok (.getfield 64, 3) := by decide +kernel
theorem w_387 : Cond.fieldLink "QuarterWalks" 64 "QuarterWalks" "scratch" "[J" ∈ wAll := wI2 52 (by decide +kernel) (by decide +kernel)
theorem fl_X10_64 : fl RX10 64 11 8 := ⟨RX10, TX10, 10, rfl, inA_X10, by decide, w_387⟩
theorem dX10_meet_59 : decode cX10_meet 59 = .ok (.invokevirtual 280, 3) := by decide +kernel
theorem w_928 : Cond.methodLink "QuarterWalks" 280 yX2_copyQuarter ∈ wAll := wI4 113 (by decide +kernel) (by decide +kernel)
theorem w_930 : Cond.selects yX2_copyQuarter.cls yX2_copyQuarter yX2_copyQuarter ∈ wAll := wI4 115 (by decide +kernel) (by decide +kernel)
theorem mk_X2_copyQuarter : mk yX2_copyQuarter 1 := ⟨by decide +kernel, w_100⟩
theorem w_929 : Cond.instanceMethod yX2_copyQuarter ∈ wAll := wI4 114 (by decide +kernel) (by decide +kernel)
theorem w_931 : Cond.code yX2_copyQuarter cX2_copyQuarter 4 none ∈ wAll := wI4 116 (by decide +kernel) (by decide +kernel)
theorem dX10_meet_62 : decode cX10_meet 62 = .ok (.aload_n 0, 1) := by decide +kernel
theorem dX10_meet_63 : decode cX10_meet 63 = .ok (.getfield 26, 3) := by decide +kernel
theorem dX10_meet_66 : decode cX10_meet 66 = .ok (.aload 5, 2) := by decide +kernel
theorem dX10_meet_68 : decode cX10_meet 68 = .ok (.iconst 0, 1) := by decide +kernel
theorem dX10_meet_69 : decode cX10_meet 69 = .ok (.iconst 0, 1) := by decide +kernel
theorem dX10_meet_70 : decode cX10_meet 70 = .ok (.iload_n 3, 1) := by decide +kernel
theorem dX10_meet_71 : decode cX10_meet 71 = .ok (.invokevirtual 187, 3) := by decide +kernel
theorem dX10_meet_74 : decode cX10_meet 74 = .ok (.aload_n 0, 1) := by decide +kernel
theorem dX10_meet_75 : decode cX10_meet 75 = .ok (.getfield 26, 3) := by decide +kernel
theorem dX10_meet_78 : decode cX10_meet 78 = .ok (.aload_n 0, 1) := by decide +kernel
theorem dX10_meet_79 : decode cX10_meet 79 = .ok (.getfield 64, 3) := by decide +kernel
theorem dX10_meet_82 : decode cX10_meet 82 = .ok (.invokevirtual 284, 3) := by decide +kernel
theorem w_932 : Cond.methodLink "QuarterWalks" 284 yX2_matched ∈ wAll := wI4 117 (by decide +kernel) (by decide +kernel)
theorem w_934 : Cond.selects yX2_matched.cls yX2_matched yX2_matched ∈ wAll := wI4 119 (by decide +kernel) (by decide +kernel)
theorem mk_X2_matched : mk yX2_matched 1 := ⟨by decide +kernel, w_100⟩
theorem w_933 : Cond.instanceMethod yX2_matched ∈ wAll := wI4 118 (by decide +kernel) (by decide +kernel)
theorem w_935 : Cond.code yX2_matched cX2_matched 6 (some .int) ∈ wAll := wI4 120 (by decide +kernel) (by decide +kernel)
theorem dX10_meet_38 : decode cX10_meet 38 = .ok (.ireturn, 1) := by decide +kernel
theorem dX10_meet_85 : decode cX10_meet 85 = .ok (.ireturn, 1) := by decide +kernel
theorem dX10_bridge_0 : decode cX10_bridge 0 = .ok (.aload_n 0, 1) := by decide +kernel
theorem dX10_bridge_1 : decode cX10_bridge 1 = .ok (.getfield 19, 3) := by decide +kernel
theorem dX10_bridge_4 : decode cX10_bridge 4 = .ok (.iload_n 1, 1) := by decide +kernel
theorem dX10_bridge_5 : decode cX10_bridge 5 = .ok (.invokevirtual 110, 3) := by decide +kernel
theorem dX10_bridge_8 : decode cX10_bridge 8 = .ok (.astore 5, 2) := by decide +kernel
theorem dX10_bridge_10 : decode cX10_bridge 10 = .ok (.aload 5, 2) := by decide +kernel
theorem dX10_bridge_12 : decode cX10_bridge 12 = .ok (.ifnull 19, 3) := by decide +kernel
theorem dX10_bridge_31 : decode cX10_bridge 31 = .ok (.iconst (-1), 1) := by decide +kernel
theorem dX10_bridge_15 : decode cX10_bridge 15 = .ok (.iload_n 2, 1) := by decide +kernel
theorem dX10_bridge_16 : decode cX10_bridge 16 = .ok (.invokestatic 179, 3) := by decide +kernel
theorem dX10_bridge_19 : decode cX10_bridge 19 = .ok (.ifCond .eq 12, 3) := by decide +kernel
theorem dX10_bridge_22 : decode cX10_bridge 22 = .ok (.iload_n 3, 1) := by decide +kernel
theorem dX10_bridge_23 : decode cX10_bridge 23 = .ok (.iload 4, 2) := by decide +kernel
theorem dX10_bridge_25 : decode cX10_bridge 25 = .ok (.invokestatic 183, 3) := by decide +kernel
theorem dX10_bridge_28 : decode cX10_bridge 28 = .ok (.ifCond .ne 5, 3) := by decide +kernel
theorem dX10_bridge_33 : decode cX10_bridge 33 = .ok (.aload 5, 2) := by decide +kernel
theorem dX10_bridge_35 : decode cX10_bridge 35 = .ok (.getfield 125, 3) := by decide +kernel
theorem w_561 : Cond.fieldLink "QuarterWalks" 125 "QuarterWalks$StepSet" "startX" "I" ∈ wAll := wI2 226 (by decide +kernel) (by decide +kernel)
theorem fl_X10_125 : fl RX10 125 7 1 := ⟨RX6, TX6, 4, rfl, inA_X6, by decide, w_561⟩
theorem dX10_bridge_38 : decode cX10_bridge 38 = .ok (.iload_n 3, 1) := by decide +kernel
theorem dX10_bridge_39 : decode cX10_bridge 39 = .ok (.if_icmp .gt 13, 3) := by decide +kernel
theorem dX10_bridge_52 : decode cX10_bridge 52 = .ok (.iconst 0, 1) := by decide +kernel
theorem dX10_bridge_42 : decode cX10_bridge 42 = .ok (.aload 5, 2) := by decide +kernel
theorem dX10_bridge_44 : decode cX10_bridge 44 = .ok (.getfield 120, 3) := by decide +kernel
theorem w_565 : Cond.fieldLink "QuarterWalks" 120 "QuarterWalks$StepSet" "startY" "I" ∈ wAll := wI2 230 (by decide +kernel) (by decide +kernel)
theorem fl_X10_120 : fl RX10 120 7 2 := ⟨RX6, TX6, 4, rfl, inA_X6, by decide, w_565⟩
theorem dX10_bridge_47 : decode cX10_bridge 47 = .ok (.iload 4, 2) := by decide +kernel
theorem dX10_bridge_49 : decode cX10_bridge 49 = .ok (.if_icmp .le 5, 3) := by decide +kernel
theorem dX10_bridge_54 : decode cX10_bridge 54 = .ok (.aload_n 0, 1) := by decide +kernel
theorem dX10_bridge_55 : decode cX10_bridge 55 = .ok (.getfield 26, 3) := by decide +kernel
theorem dX10_bridge_58 : decode cX10_bridge 58 = .ok (.aload 5, 2) := by decide +kernel
theorem dX10_bridge_60 : decode cX10_bridge 60 = .ok (.iconst 0, 1) := by decide +kernel
theorem dX10_bridge_61 : decode cX10_bridge 61 = .ok (.iconst 0, 1) := by decide +kernel
theorem dX10_bridge_62 : decode cX10_bridge 62 = .ok (.invokevirtual 207, 3) := by decide +kernel
theorem w_762 : Cond.methodLink "QuarterWalks" 207 yX2_open ∈ wAll := wI3 187 (by decide +kernel) (by decide +kernel)
theorem dX10_bridge_65 : decode cX10_bridge 65 = .ok (.aload_n 0, 1) := by decide +kernel
theorem dX10_bridge_66 : decode cX10_bridge 66 = .ok (.getfield 26, 3) := by decide +kernel
theorem dX10_bridge_69 : decode cX10_bridge 69 = .ok (.iload_n 3, 1) := by decide +kernel
theorem dX10_bridge_70 : decode cX10_bridge 70 = .ok (.iload 4, 2) := by decide +kernel
theorem dX10_bridge_72 : decode cX10_bridge 72 = .ok (.invokevirtual 211, 3) := by decide +kernel
theorem w_763 : Cond.methodLink "QuarterWalks" 211 yX2_close ∈ wAll := wI3 188 (by decide +kernel) (by decide +kernel)
theorem w_765 : Cond.selects yX2_close.cls yX2_close yX2_close ∈ wAll := wI3 190 (by decide +kernel) (by decide +kernel)
theorem mk_X2_close : mk yX2_close 2 := ⟨by decide +kernel, w_100⟩
theorem w_764 : Cond.instanceMethod yX2_close ∈ wAll := wI3 189 (by decide +kernel) (by decide +kernel)
theorem w_766 : Cond.code yX2_close cX2_close 3 none ∈ wAll := wI3 191 (by decide +kernel) (by decide +kernel)
theorem dX10_bridge_75 : decode cX10_bridge 75 = .ok (.aload_n 0, 1) := by decide +kernel
theorem dX10_bridge_76 : decode cX10_bridge 76 = .ok (.getfield 26, 3) := by decide +kernel
theorem dX10_bridge_79 : decode cX10_bridge 79 = .ok (.iload_n 2, 1) := by decide +kernel
theorem dX10_bridge_80 : decode cX10_bridge 80 = .ok (.invokevirtual 215, 3) := by decide +kernel
theorem w_767 : Cond.methodLink "QuarterWalks" 215 yX2_advance ∈ wAll := wI3 192 (by decide +kernel) (by decide +kernel)
theorem dX10_bridge_83 : decode cX10_bridge 83 = .ok (.aload_n 0, 1) := by decide +kernel
theorem dX10_bridge_84 : decode cX10_bridge 84 = .ok (.getfield 26, 3) := by decide +kernel
theorem dX10_bridge_87 : decode cX10_bridge 87 = .ok (.iload_n 3, 1) := by decide +kernel
theorem dX10_bridge_88 : decode cX10_bridge 88 = .ok (.iload 4, 2) := by decide +kernel
theorem dX10_bridge_90 : decode cX10_bridge 90 = .ok (.invokevirtual 191, 3) := by decide +kernel
theorem dX10_bridge_93 : decode cX10_bridge 93 = .ok (.l2i, 1) := by decide +kernel
theorem dX10_bridge_32 : decode cX10_bridge 32 = .ok (.ireturn, 1) := by decide +kernel
theorem dX10_bridge_53 : decode cX10_bridge 53 = .ok (.ireturn, 1) := by decide +kernel
theorem dX10_bridge_94 : decode cX10_bridge 94 = .ok (.ireturn, 1) := by decide +kernel
theorem dX10_fewest_0 : decode cX10_fewest 0 = .ok (.aload_n 0, 1) := by decide +kernel
theorem dX10_fewest_1 : decode cX10_fewest 1 = .ok (.getfield 19, 3) := by decide +kernel
theorem dX10_fewest_4 : decode cX10_fewest 4 = .ok (.iload_n 1, 1) := by decide +kernel
theorem dX10_fewest_5 : decode cX10_fewest 5 = .ok (.invokevirtual 110, 3) := by decide +kernel
theorem dX10_fewest_8 : decode cX10_fewest 8 = .ok (.astore 4, 2) := by decide +kernel
theorem dX10_fewest_10 : decode cX10_fewest 10 = .ok (.aload 4, 2) := by decide +kernel
theorem dX10_fewest_12 : decode cX10_fewest 12 = .ok (.ifnull 11, 3) := by decide +kernel
theorem dX10_fewest_23 : decode cX10_fewest 23 = .ok (.iconst (-1), 1) := by decide +kernel
theorem dX10_fewest_15 : decode cX10_fewest 15 = .ok (.iload_n 2, 1) := by decide +kernel
theorem dX10_fewest_16 : decode cX10_fewest 16 = .ok (.iload_n 3, 1) := by decide +kernel
theorem dX10_fewest_17 : decode cX10_fewest 17 = .ok (.invokestatic 183, 3) := by decide +kernel
theorem dX10_fewest_20 : decode cX10_fewest 20 = .ok (.ifCond .ne 5, 3) := by decide +kernel
theorem dX10_fewest_25 : decode cX10_fewest 25 = .ok (.aload_n 0, 1) := by decide +kernel
theorem dX10_fewest_26 : decode cX10_fewest 26 = .ok (.getfield 26, 3) := by decide +kernel
theorem dX10_fewest_29 : decode cX10_fewest 29 = .ok (.aload 4, 2) := by decide +kernel
theorem dX10_fewest_31 : decode cX10_fewest 31 = .ok (.iconst 3, 1) := by decide +kernel
theorem dX10_fewest_32 : decode cX10_fewest 32 = .ok (.iconst 0, 1) := by decide +kernel
theorem dX10_fewest_33 : decode cX10_fewest 33 = .ok (.invokevirtual 207, 3) := by decide +kernel
theorem dX10_fewest_36 : decode cX10_fewest 36 = .ok (.iconst 0, 1) := by decide +kernel
theorem dX10_fewest_37 : decode cX10_fewest 37 = .ok (.istore 5, 2) := by decide +kernel
theorem dX10_fewest_39 : decode cX10_fewest 39 = .ok (.iload 5, 2) := by decide +kernel
theorem dX10_fewest_41 : decode cX10_fewest 41 = .ok (.bipush 60, 2) := by decide +kernel
theorem dX10_fewest_43 : decode cX10_fewest 43 = .ok (.if_icmp .gt 39, 3) := by decide +kernel
theorem dX10_fewest_46 : decode cX10_fewest 46 = .ok (.iload 5, 2) := by decide +kernel
theorem dX10_fewest_48 : decode cX10_fewest 48 = .ok (.ifCond .le 11, 3) := by decide +kernel
theorem dX10_fewest_59 : decode cX10_fewest 59 = .ok (.aload_n 0, 1) := by decide +kernel
theorem dX10_fewest_60 : decode cX10_fewest 60 = .ok (.getfield 26, 3) := by decide +kernel
theorem dX10_fewest_63 : decode cX10_fewest 63 = .ok (.iload_n 2, 1) := by decide +kernel
theorem dX10_fewest_64 : decode cX10_fewest 64 = .ok (.iload_n 3, 1) := by decide +kernel
theorem dX10_fewest_65 : decode cX10_fewest 65 = .ok (.invokevirtual 191, 3) := by decide +kernel
theorem dX10_fewest_68 : decode cX10_fewest 68 = .ok (.lconst 0, 1) := by decide +kernel
theorem dX10_fewest_69 : decode cX10_fewest 69 = .ok (.lcmp, 1) := by decide +kernel
theorem dX10_fewest_70 : decode cX10_fewest 70 = .ok (.ifCond .eq 6, 3) := by decide +kernel
theorem dX10_fewest_76 : decode cX10_fewest 76 = .ok (.iinc 5 1, 3) := by decide +kernel
theorem dX10_fewest_79 : decode cX10_fewest 79 = .ok (.goto (-40), 3) := by decide +kernel
theorem dX10_fewest_73 : decode cX10_fewest 73 = .ok (.iload 5, 2) := by decide +kernel
theorem dX10_fewest_51 : decode cX10_fewest 51 = .ok (.aload_n 0, 1) := by decide +kernel
theorem dX10_fewest_52 : decode cX10_fewest 52 = .ok (.getfield 26, 3) := by decide +kernel
theorem dX10_fewest_55 : decode cX10_fewest 55 = .ok (.iconst 1, 1) := by decide +kernel
theorem dX10_fewest_56 : decode cX10_fewest 56 = .ok (.invokevirtual 215, 3) := by decide +kernel
theorem dX10_fewest_82 : decode cX10_fewest 82 = .ok (.iconst (-1), 1) := by decide +kernel
theorem dX10_fewest_83 : decode cX10_fewest 83 = .ok (.ireturn, 1) := by decide +kernel
theorem dX10_fewest_75 : decode cX10_fewest 75 = .ok (.ireturn, 1) := by decide +kernel
theorem dX10_fewest_24 : decode cX10_fewest 24 = .ok (.ireturn, 1) := by decide +kernel
theorem dX10_period_0 : decode cX10_period 0 = .ok (.aload_n 0, 1) := by decide +kernel
theorem dX10_period_1 : decode cX10_period 1 = .ok (.getfield 19, 3) := by decide +kernel
theorem dX10_period_4 : decode cX10_period 4 = .ok (.iload_n 1, 1) := by decide +kernel
theorem dX10_period_5 : decode cX10_period 5 = .ok (.invokevirtual 110, 3) := by decide +kernel
theorem dX10_period_8 : decode cX10_period 8 = .ok (.astore_n 2, 1) := by decide +kernel
theorem dX10_period_9 : decode cX10_period 9 = .ok (.aload_n 2, 1) := by decide +kernel
theorem dX10_period_10 : decode cX10_period 10 = .ok (.ifnonnull 5, 3) := by decide +kernel
theorem dX10_period_13 : decode cX10_period 13 = .ok (.iconst (-1), 1) := by decide +kernel
theorem dX10_period_15 : decode cX10_period 15 = .ok (.aload_n 0, 1) := by decide +kernel
theorem dX10_period_16 : decode cX10_period 16 = .ok (.getfield 26, 3) := by decide +kernel
theorem dX10_period_19 : decode cX10_period 19 = .ok (.aload_n 2, 1) := by decide +kernel
theorem dX10_period_20 : decode cX10_period 20 = .ok (.iconst 3, 1) := by decide +kernel
theorem dX10_period_21 : decode cX10_period 21 = .ok (.iconst 0, 1) := by decide +kernel
theorem dX10_period_22 : decode cX10_period 22 = .ok (.invokevirtual 207, 3) := by decide +kernel
theorem dX10_period_25 : decode cX10_period 25 = .ok (.iconst 0, 1) := by decide +kernel
theorem dX10_period_26 : decode cX10_period 26 = .ok (.istore_n 3, 1) := by decide +kernel
theorem dX10_period_27 : decode cX10_period 27 = .ok (.iconst 1, 1) := by decide +kernel
theorem dX10_period_28 : decode cX10_period 28 = .ok (.istore 4, 2) := by decide +kernel
theorem dX10_period_30 : decode cX10_period 30 = .ok (.iload 4, 2) := by decide +kernel
theorem dX10_period_32 : decode cX10_period 32 = .ok (.bipush 60, 2) := by decide +kernel
theorem dX10_period_34 : decode cX10_period 34 = .ok (.if_icmp .gt 44, 3) := by decide +kernel
theorem dX10_period_37 : decode cX10_period 37 = .ok (.aload_n 0, 1) := by decide +kernel
theorem dX10_period_38 : decode cX10_period 38 = .ok (.getfield 26, 3) := by decide +kernel
theorem dX10_period_41 : decode cX10_period 41 = .ok (.iconst 1, 1) := by decide +kernel
theorem dX10_period_42 : decode cX10_period 42 = .ok (.invokevirtual 215, 3) := by decide +kernel
theorem dX10_period_45 : decode cX10_period 45 = .ok (.aload_n 0, 1) := by decide +kernel
theorem dX10_period_46 : decode cX10_period 46 = .ok (.getfield 26, 3) := by decide +kernel
theorem dX10_period_49 : decode cX10_period 49 = .ok (.aload_n 2, 1) := by decide +kernel
theorem dX10_period_50 : decode cX10_period 50 = .ok (.getfield 125, 3) := by decide +kernel
theorem dX10_period_53 : decode cX10_period 53 = .ok (.aload_n 2, 1) := by decide +kernel
theorem dX10_period_54 : decode cX10_period 54 = .ok (.getfield 120, 3) := by decide +kernel
theorem dX10_period_57 : decode cX10_period 57 = .ok (.invokevirtual 191, 3) := by decide +kernel
theorem dX10_period_60 : decode cX10_period 60 = .ok (.lconst 0, 1) := by decide +kernel
theorem dX10_period_61 : decode cX10_period 61 = .ok (.lcmp, 1) := by decide +kernel
theorem dX10_period_62 : decode cX10_period 62 = .ok (.ifCond .eq 10, 3) := by decide +kernel
theorem dX10_period_72 : decode cX10_period 72 = .ok (.iinc 4 1, 3) := by decide +kernel
theorem dX10_period_75 : decode cX10_period 75 = .ok (.goto (-45), 3) := by decide +kernel
theorem dX10_period_65 : decode cX10_period 65 = .ok (.iload_n 3, 1) := by decide +kernel
theorem dX10_period_66 : decode cX10_period 66 = .ok (.iload 4, 2) := by decide +kernel
theorem dX10_period_68 : decode cX10_period 68 = .ok (.invokestatic 277, 3) := by decide +kernel
theorem w_921 : Cond.methodLink "QuarterWalks" 277 yX10_commonDivisor ∈ wAll := wI4 106 (by decide +kernel) (by decide +kernel)
theorem mk_X10_commonDivisor : mk yX10_commonDivisor 2 := ⟨by decide +kernel, w_96⟩
theorem w_922 : Cond.static yX10_commonDivisor ∈ wAll := wI4 107 (by decide +kernel) (by decide +kernel)
theorem w_923 : Cond.code yX10_commonDivisor cX10_commonDivisor 6 (some .int) ∈ wAll := wI4 108 (by decide +kernel) (by decide +kernel)
theorem dX10_period_71 : decode cX10_period 71 = .ok (.istore_n 3, 1) := by decide +kernel
theorem dX10_period_78 : decode cX10_period 78 = .ok (.iload_n 3, 1) := by decide +kernel
theorem dX10_period_79 : decode cX10_period 79 = .ok (.ireturn, 1) := by decide +kernel
theorem dX10_period_14 : decode cX10_period 14 = .ok (.ireturn, 1) := by decide +kernel
theorem dX10_noUse_0 : decode cX10_noUse 0 = .ok (.aload_n 0, 1) := by decide +kernel
theorem dX10_noUse_1 : decode cX10_noUse 1 = .ok (.getfield 19, 3) := by decide +kernel
theorem dX10_noUse_4 : decode cX10_noUse 4 = .ok (.iload_n 1, 1) := by decide +kernel
theorem dX10_noUse_5 : decode cX10_noUse 5 = .ok (.invokevirtual 110, 3) := by decide +kernel
theorem dX10_noUse_8 : decode cX10_noUse 8 = .ok (.astore_n 2, 1) := by decide +kernel
theorem dX10_noUse_9 : decode cX10_noUse 9 = .ok (.aload_n 2, 1) := by decide +kernel
theorem dX10_noUse_10 : decode cX10_noUse 10 = .ok (.ifnonnull 5, 3) := by decide +kernel
theorem dX10_noUse_13 : decode cX10_noUse 13 = .ok (.iconst (-1), 1) := by decide +kernel
theorem dX10_noUse_15 : decode cX10_noUse 15 = .ok (.aload_n 2, 1) := by decide +kernel
theorem dX10_noUse_16 : decode cX10_noUse 16 = .ok (.invokevirtual 161, 3) := by decide +kernel
theorem w_998 : Cond.methodLink "QuarterWalks" 161 yX6_bits ∈ wAll := wI4 183 (by decide +kernel) (by decide +kernel)
theorem dX10_noUse_19 : decode cX10_noUse 19 = .ok (.istore_n 3, 1) := by decide +kernel
theorem dX10_noUse_20 : decode cX10_noUse 20 = .ok (.aload_n 0, 1) := by decide +kernel
theorem dX10_noUse_21 : decode cX10_noUse 21 = .ok (.getfield 26, 3) := by decide +kernel
theorem dX10_noUse_24 : decode cX10_noUse 24 = .ok (.aload_n 2, 1) := by decide +kernel
theorem dX10_noUse_25 : decode cX10_noUse 25 = .ok (.iconst 3, 1) := by decide +kernel
theorem dX10_noUse_26 : decode cX10_noUse 26 = .ok (.iconst 0, 1) := by decide +kernel
theorem dX10_noUse_27 : decode cX10_noUse 27 = .ok (.invokevirtual 207, 3) := by decide +kernel
theorem dX10_noUse_30 : decode cX10_noUse 30 = .ok (.iconst 1, 1) := by decide +kernel
theorem dX10_noUse_31 : decode cX10_noUse 31 = .ok (.istore 4, 2) := by decide +kernel
theorem dX10_noUse_33 : decode cX10_noUse 33 = .ok (.iload 4, 2) := by decide +kernel
theorem dX10_noUse_35 : decode cX10_noUse 35 = .ok (.bipush 24, 2) := by decide +kernel
theorem dX10_noUse_37 : decode cX10_noUse 37 = .ok (.if_icmp .gt 33, 3) := by decide +kernel
theorem dX10_noUse_40 : decode cX10_noUse 40 = .ok (.iload_n 3, 1) := by decide +kernel
theorem dX10_noUse_41 : decode cX10_noUse 41 = .ok (.ifCond .eq 29, 3) := by decide +kernel
theorem dX10_noUse_70 : decode cX10_noUse 70 = .ok (.iload_n 3, 1) := by decide +kernel
theorem dX10_noUse_44 : decode cX10_noUse 44 = .ok (.iload_n 3, 1) := by decide +kernel
theorem dX10_noUse_45 : decode cX10_noUse 45 = .ok (.aload_n 0, 1) := by decide +kernel
theorem dX10_noUse_46 : decode cX10_noUse 46 = .ok (.getfield 26, 3) := by decide +kernel
theorem dX10_noUse_49 : decode cX10_noUse 49 = .ok (.invokevirtual 313, 3) := by decide +kernel
theorem w_999 : Cond.methodLink "QuarterWalks" 313 yX2_staying ∈ wAll := wI4 184 (by decide +kernel) (by decide +kernel)
theorem w_1001 : Cond.selects yX2_staying.cls yX2_staying yX2_staying ∈ wAll := wI4 186 (by decide +kernel) (by decide +kernel)
theorem mk_X2_staying : mk yX2_staying 0 := ⟨by decide +kernel, w_100⟩
theorem w_1000 : Cond.instanceMethod yX2_staying ∈ wAll := wI4 185 (by decide +kernel) (by decide +kernel)
theorem w_1002 : Cond.code yX2_staying cX2_staying 4 (some .int) ∈ wAll := wI4 187 (by decide +kernel) (by decide +kernel)
theorem dX10_noUse_52 : decode cX10_noUse 52 = .ok (.iconst (-1), 1) := by decide +kernel
theorem dX10_noUse_53 : decode cX10_noUse 53 = .ok (.ixor, 1) := by decide +kernel
theorem dX10_noUse_54 : decode cX10_noUse 54 = .ok (.iand, 1) := by decide +kernel
theorem dX10_noUse_55 : decode cX10_noUse 55 = .ok (.istore_n 3, 1) := by decide +kernel
theorem dX10_noUse_56 : decode cX10_noUse 56 = .ok (.aload_n 0, 1) := by decide +kernel
theorem dX10_noUse_57 : decode cX10_noUse 57 = .ok (.getfield 26, 3) := by decide +kernel
theorem dX10_noUse_60 : decode cX10_noUse 60 = .ok (.iconst 1, 1) := by decide +kernel
theorem dX10_noUse_61 : decode cX10_noUse 61 = .ok (.invokevirtual 215, 3) := by decide +kernel
theorem dX10_noUse_64 : decode cX10_noUse 64 = .ok (.iinc 4 1, 3) := by decide +kernel
theorem dX10_noUse_67 : decode cX10_noUse 67 = .ok (.goto (-34), 3) := by decide +kernel
theorem dX10_noUse_71 : decode cX10_noUse 71 = .ok (.ireturn, 1) := by decide +kernel
theorem dX10_noUse_14 : decode cX10_noUse 14 = .ok (.ireturn, 1) := by decide +kernel
theorem dX10_walk_0 : decode cX10_walk 0 = .ok (.aload_n 0, 1) := by decide +kernel
theorem dX10_walk_1 : decode cX10_walk 1 = .ok (.getfield 19, 3) := by decide +kernel
theorem dX10_walk_4 : decode cX10_walk 4 = .ok (.iload_n 1, 1) := by decide +kernel
theorem dX10_walk_5 : decode cX10_walk 5 = .ok (.invokevirtual 110, 3) := by decide +kernel
theorem dX10_walk_8 : decode cX10_walk 8 = .ok (.astore 7, 2) := by decide +kernel
theorem dX10_walk_10 : decode cX10_walk 10 = .ok (.aload 7, 2) := by decide +kernel
theorem dX10_walk_12 : decode cX10_walk 12 = .ok (.ifnull 22, 3) := by decide +kernel
theorem dX10_walk_34 : decode cX10_walk 34 = .ok (.ldc 218, 2) := by decide +kernel
theorem dX10_walk_15 : decode cX10_walk 15 = .ok (.iload_n 2, 1) := by decide +kernel
theorem dX10_walk_16 : decode cX10_walk 16 = .ok (.iconst 0, 1) := by decide +kernel
theorem dX10_walk_17 : decode cX10_walk 17 = .ok (.bipush 10, 2) := by decide +kernel
theorem dX10_walk_19 : decode cX10_walk 19 = .ok (.invokestatic 87, 3) := by decide +kernel
theorem dX10_walk_22 : decode cX10_walk 22 = .ok (.ifCond .eq 12, 3) := by decide +kernel
theorem dX10_walk_25 : decode cX10_walk 25 = .ok (.iload_n 3, 1) := by decide +kernel
theorem dX10_walk_26 : decode cX10_walk 26 = .ok (.iload 4, 2) := by decide +kernel
theorem dX10_walk_28 : decode cX10_walk 28 = .ok (.invokestatic 183, 3) := by decide +kernel
theorem dX10_walk_31 : decode cX10_walk 31 = .ok (.ifCond .ne 6, 3) := by decide +kernel
theorem dX10_walk_37 : decode cX10_walk 37 = .ok (.aload_n 0, 1) := by decide +kernel
theorem dX10_walk_38 : decode cX10_walk 38 = .ok (.getfield 33, 3) := by decide +kernel
theorem w_382 : Cond.fieldLink "QuarterWalks" 33 "QuarterWalks" "ways" "LQuarterWalks$Ways;" ∈ wAll := wI2 47 (by decide +kernel) (by decide +kernel)
theorem fl_X10_33 : fl RX10 33 11 3 := ⟨RX10, TX10, 10, rfl, inA_X10, by decide, w_382⟩
theorem dX10_walk_41 : decode cX10_walk 41 = .ok (.aload 7, 2) := by decide +kernel
theorem dX10_walk_43 : decode cX10_walk 43 = .ok (.iload_n 2, 1) := by decide +kernel
theorem dX10_walk_44 : decode cX10_walk 44 = .ok (.iload_n 3, 1) := by decide +kernel
theorem dX10_walk_45 : decode cX10_walk 45 = .ok (.iload 4, 2) := by decide +kernel
theorem dX10_walk_47 : decode cX10_walk 47 = .ok (.invokevirtual 260, 3) := by decide +kernel
theorem w_864 : Cond.methodLink "QuarterWalks" 260 yX9_lead ∈ wAll := wI4 49 (by decide +kernel) (by decide +kernel)
theorem w_866 : Cond.selects yX9_lead.cls yX9_lead yX9_lead ∈ wAll := wI4 51 (by decide +kernel) (by decide +kernel)
theorem mk_X9_lead : mk yX9_lead 4 := ⟨by decide +kernel, w_102⟩
theorem w_865 : Cond.instanceMethod yX9_lead ∈ wAll := wI4 50 (by decide +kernel) (by decide +kernel)
theorem w_867 : Cond.code yX9_lead cX9_lead 10 (some .int) ∈ wAll := wI4 52 (by decide +kernel) (by decide +kernel)
theorem dX10_walk_50 : decode cX10_walk 50 = .ok (.istore 8, 2) := by decide +kernel
theorem dX10_walk_52 : decode cX10_walk 52 = .ok (.iload 5, 2) := by decide +kernel
theorem dX10_walk_54 : decode cX10_walk 54 = .ok (.iconst (-1), 1) := by decide +kernel
theorem dX10_walk_55 : decode cX10_walk 55 = .ok (.if_icmp .ne 6, 3) := by decide +kernel
theorem dX10_walk_61 : decode cX10_walk 61 = .ok (.iload 5, 2) := by decide +kernel
theorem dX10_walk_63 : decode cX10_walk 63 = .ok (.iconst 0, 1) := by decide +kernel
theorem dX10_walk_64 : decode cX10_walk 64 = .ok (.iload 8, 2) := by decide +kernel
theorem dX10_walk_66 : decode cX10_walk 66 = .ok (.iconst 1, 1) := by decide +kernel
theorem dX10_walk_67 : decode cX10_walk 67 = .ok (.isub, 1) := by decide +kernel
theorem dX10_walk_68 : decode cX10_walk 68 = .ok (.invokestatic 87, 3) := by decide +kernel
theorem dX10_walk_71 : decode cX10_walk 71 = .ok (.ifCond .eq 15, 3) := by decide +kernel
theorem dX10_walk_86 : decode cX10_walk 86 = .ok (.ldc 218, 2) := by decide +kernel
theorem dX10_walk_74 : decode cX10_walk 74 = .ok (.iload 6, 2) := by decide +kernel
theorem dX10_walk_76 : decode cX10_walk 76 = .ok (.iconst 0, 1) := by decide +kernel
theorem dX10_walk_77 : decode cX10_walk 77 = .ok (.iload_n 2, 1) := by decide +kernel
theorem dX10_walk_78 : decode cX10_walk 78 = .ok (.iconst 1, 1) := by decide +kernel
theorem dX10_walk_79 : decode cX10_walk 79 = .ok (.isub, 1) := by decide +kernel
theorem dX10_walk_80 : decode cX10_walk 80 = .ok (.invokestatic 87, 3) := by decide +kernel
theorem dX10_walk_83 : decode cX10_walk 83 = .ok (.ifCond .ne 6, 3) := by decide +kernel
theorem dX10_walk_89 : decode cX10_walk 89 = .ok (.aload_n 0, 1) := by decide +kernel
theorem dX10_walk_90 : decode cX10_walk 90 = .ok (.getfield 33, 3) := by decide +kernel
theorem dX10_walk_93 : decode cX10_walk 93 = .ok (.aload 7, 2) := by decide +kernel
theorem dX10_walk_95 : decode cX10_walk 95 = .ok (.iload 5, 2) := by decide +kernel
theorem dX10_walk_97 : decode cX10_walk 97 = .ok (.iload 6, 2) := by decide +kernel
theorem dX10_walk_99 : decode cX10_walk 99 = .ok (.invokevirtual 264, 3) := by decide +kernel
theorem w_885 : Cond.methodLink "QuarterWalks" 264 yX9_follow ∈ wAll := wI4 70 (by decide +kernel) (by decide +kernel)
theorem w_887 : Cond.selects yX9_follow.cls yX9_follow yX9_follow ∈ wAll := wI4 72 (by decide +kernel) (by decide +kernel)
theorem mk_X9_follow : mk yX9_follow 3 := ⟨by decide +kernel, w_102⟩
theorem w_886 : Cond.instanceMethod yX9_follow ∈ wAll := wI4 71 (by decide +kernel) (by decide +kernel)
theorem w_888 : Cond.code yX9_follow cX9_follow 11 (some .int) ∈ wAll := wI4 73 (by decide +kernel) (by decide +kernel)
theorem dX10_walk_58 : decode cX10_walk 58 = .ok (.iload 8, 2) := by decide +kernel
theorem dX10_walk_36 : decode cX10_walk 36 = .ok (.ireturn, 1) := by decide +kernel
theorem dX10_walk_88 : decode cX10_walk 88 = .ok (.ireturn, 1) := by decide +kernel
theorem dX10_walk_102 : decode cX10_walk 102 = .ok (.ireturn, 1) := by decide +kernel
theorem dX10_walk_60 : decode cX10_walk 60 = .ok (.ireturn, 1) := by decide +kernel
theorem dX10_drawn_0 : decode cX10_drawn 0 = .ok (.aload_n 0, 1) := by decide +kernel
theorem dX10_drawn_1 : decode cX10_drawn 1 = .ok (.getfield 19, 3) := by decide +kernel
theorem dX10_drawn_4 : decode cX10_drawn 4 = .ok (.iload_n 1, 1) := by decide +kernel
theorem dX10_drawn_5 : decode cX10_drawn 5 = .ok (.invokevirtual 110, 3) := by decide +kernel
theorem dX10_drawn_8 : decode cX10_drawn 8 = .ok (.astore 8, 2) := by decide +kernel
theorem dX10_drawn_10 : decode cX10_drawn 10 = .ok (.aload 8, 2) := by decide +kernel
theorem dX10_drawn_12 : decode cX10_drawn 12 = .ok (.ifnull 34, 3) := by decide +kernel
theorem dX10_drawn_46 : decode cX10_drawn 46 = .ok (.ldc 218, 2) := by decide +kernel
theorem dX10_drawn_15 : decode cX10_drawn 15 = .ok (.iload_n 2, 1) := by decide +kernel
theorem dX10_drawn_16 : decode cX10_drawn 16 = .ok (.iconst 0, 1) := by decide +kernel
theorem dX10_drawn_17 : decode cX10_drawn 17 = .ok (.bipush 10, 2) := by decide +kernel
theorem dX10_drawn_19 : decode cX10_drawn 19 = .ok (.invokestatic 87, 3) := by decide +kernel
theorem dX10_drawn_22 : decode cX10_drawn 22 = .ok (.ifCond .eq 24, 3) := by decide +kernel
theorem dX10_drawn_25 : decode cX10_drawn 25 = .ok (.iload_n 3, 1) := by decide +kernel
theorem dX10_drawn_26 : decode cX10_drawn 26 = .ok (.iload 4, 2) := by decide +kernel
theorem dX10_drawn_28 : decode cX10_drawn 28 = .ok (.invokestatic 183, 3) := by decide +kernel
theorem dX10_drawn_31 : decode cX10_drawn 31 = .ok (.ifCond .eq 15, 3) := by decide +kernel
theorem dX10_drawn_34 : decode cX10_drawn 34 = .ok (.iload 7, 2) := by decide +kernel
theorem dX10_drawn_36 : decode cX10_drawn 36 = .ok (.iconst 0, 1) := by decide +kernel
theorem dX10_drawn_37 : decode cX10_drawn 37 = .ok (.iload_n 2, 1) := by decide +kernel
theorem dX10_drawn_38 : decode cX10_drawn 38 = .ok (.iconst 1, 1) := by decide +kernel
theorem dX10_drawn_39 : decode cX10_drawn 39 = .ok (.isub, 1) := by decide +kernel
theorem dX10_drawn_40 : decode cX10_drawn 40 = .ok (.invokestatic 87, 3) := by decide +kernel
theorem dX10_drawn_43 : decode cX10_drawn 43 = .ok (.ifCond .ne 6, 3) := by decide +kernel
theorem dX10_drawn_49 : decode cX10_drawn 49 = .ok (.aload_n 0, 1) := by decide +kernel
theorem dX10_drawn_50 : decode cX10_drawn 50 = .ok (.getfield 33, 3) := by decide +kernel
theorem dX10_drawn_53 : decode cX10_drawn 53 = .ok (.aload 8, 2) := by decide +kernel
theorem dX10_drawn_55 : decode cX10_drawn 55 = .ok (.iload_n 2, 1) := by decide +kernel
theorem dX10_drawn_56 : decode cX10_drawn 56 = .ok (.iload_n 3, 1) := by decide +kernel
theorem dX10_drawn_57 : decode cX10_drawn 57 = .ok (.iload 4, 2) := by decide +kernel
theorem dX10_drawn_59 : decode cX10_drawn 59 = .ok (.invokevirtual 260, 3) := by decide +kernel
theorem dX10_drawn_62 : decode cX10_drawn 62 = .ok (.istore 9, 2) := by decide +kernel
theorem dX10_drawn_64 : decode cX10_drawn 64 = .ok (.iload 9, 2) := by decide +kernel
theorem dX10_drawn_66 : decode cX10_drawn 66 = .ok (.ifCond .gt 6, 3) := by decide +kernel
theorem dX10_drawn_72 : decode cX10_drawn 72 = .ok (.lload 5, 2) := by decide +kernel
theorem dX10_drawn_74 : decode cX10_drawn 74 = .ok (.ldc2_w 267, 3) := by decide +kernel
theorem w_894 : Cond.constantLong "QuarterWalks" 267 6364136223846793005 ∈ wAll := wI4 79 (by decide +kernel) (by decide +kernel)
theorem dX10_drawn_77 : decode cX10_drawn 77 = .ok (.lmul, 1) := by decide +kernel
theorem dX10_drawn_78 : decode cX10_drawn 78 = .ok (.ldc2_w 269, 3) := by decide +kernel
theorem w_895 : Cond.constantLong "QuarterWalks" 269 1442695040888963407 ∈ wAll := wI4 80 (by decide +kernel) (by decide +kernel)
theorem dX10_drawn_81 : decode cX10_drawn 81 = .ok (.ladd, 1) := by decide +kernel
theorem dX10_drawn_82 : decode cX10_drawn 82 = .ok (.bipush 33, 2) := by decide +kernel
theorem dX10_drawn_84 : decode cX10_drawn 84 = .ok (.lushr, 1) := by decide +kernel
theorem dX10_drawn_85 : decode cX10_drawn 85 = .ok (.lstore 10, 2) := by decide +kernel
theorem dX10_drawn_87 : decode cX10_drawn 87 = .ok (.aload_n 0, 1) := by decide +kernel
theorem dX10_drawn_88 : decode cX10_drawn 88 = .ok (.getfield 33, 3) := by decide +kernel
theorem dX10_drawn_91 : decode cX10_drawn 91 = .ok (.aload 8, 2) := by decide +kernel
theorem dX10_drawn_93 : decode cX10_drawn 93 = .ok (.lload 10, 2) := by decide +kernel
theorem dX10_drawn_95 : decode cX10_drawn 95 = .ok (.iload 9, 2) := by decide +kernel
theorem dX10_drawn_97 : decode cX10_drawn 97 = .ok (.i2l, 1) := by decide +kernel
theorem dX10_drawn_98 : decode cX10_drawn 98 = .ok (.lrem, 1) := by decide +kernel
theorem dX10_drawn_99 : decode cX10_drawn 99 = .ok (.l2i, 1) := by decide +kernel
theorem dX10_drawn_100 : decode cX10_drawn 100 = .ok (.iload 7, 2) := by decide +kernel
theorem dX10_drawn_102 : decode cX10_drawn 102 = .ok (.invokevirtual 264, 3) := by decide +kernel
theorem dX10_drawn_69 : decode cX10_drawn 69 = .ok (.ldc 218, 2) := by decide +kernel
theorem dX10_drawn_48 : decode cX10_drawn 48 = .ok (.ireturn, 1) := by decide +kernel
theorem dX10_drawn_105 : decode cX10_drawn 105 = .ok (.ireturn, 1) := by decide +kernel
theorem dX10_drawn_71 : decode cX10_drawn 71 = .ok (.ireturn, 1) := by decide +kernel
theorem dX10_kernel_0 : decode cX10_kernel 0 = .ok (.aload_n 0, 1) := by decide +kernel
theorem dX10_kernel_1 : decode cX10_kernel 1 = .ok (.getfield 19, 3) := by decide +kernel
theorem dX10_kernel_4 : decode cX10_kernel 4 = .ok (.iload_n 1, 1) := by decide +kernel
theorem dX10_kernel_5 : decode cX10_kernel 5 = .ok (.invokevirtual 110, 3) := by decide +kernel
theorem dX10_kernel_8 : decode cX10_kernel 8 = .ok (.astore 4, 2) := by decide +kernel
theorem dX10_kernel_10 : decode cX10_kernel 10 = .ok (.aload 4, 2) := by decide +kernel
theorem dX10_kernel_12 : decode cX10_kernel 12 = .ok (.ifnull 17, 3) := by decide +kernel
theorem dX10_kernel_29 : decode cX10_kernel 29 = .ok (.iconst (-1), 1) := by decide +kernel
theorem dX10_kernel_15 : decode cX10_kernel 15 = .ok (.iload_n 2, 1) := by decide +kernel
theorem dX10_kernel_16 : decode cX10_kernel 16 = .ok (.invokestatic 288, 3) := by decide +kernel
theorem w_941 : Cond.methodLink "QuarterWalks" 288 yX10_isUnit ∈ wAll := wI4 126 (by decide +kernel) (by decide +kernel)
theorem mk_X10_isUnit : mk yX10_isUnit 1 := ⟨by decide +kernel, w_96⟩
theorem w_942 : Cond.static yX10_isUnit ∈ wAll := wI4 127 (by decide +kernel) (by decide +kernel)
theorem w_943 : Cond.code yX10_isUnit cX10_isUnit 1 (some .boolean) ∈ wAll := wI4 128 (by decide +kernel) (by decide +kernel)
theorem dX10_kernel_19 : decode cX10_kernel 19 = .ok (.ifCond .eq 10, 3) := by decide +kernel
theorem dX10_kernel_22 : decode cX10_kernel 22 = .ok (.iload_n 3, 1) := by decide +kernel
theorem dX10_kernel_23 : decode cX10_kernel 23 = .ok (.invokestatic 288, 3) := by decide +kernel
theorem dX10_kernel_26 : decode cX10_kernel 26 = .ok (.ifCond .ne 5, 3) := by decide +kernel
theorem dX10_kernel_31 : decode cX10_kernel 31 = .ok (.aload 4, 2) := by decide +kernel
theorem dX10_kernel_33 : decode cX10_kernel 33 = .ok (.iload_n 2, 1) := by decide +kernel
theorem dX10_kernel_34 : decode cX10_kernel 34 = .ok (.iload_n 3, 1) := by decide +kernel
theorem dX10_kernel_35 : decode cX10_kernel 35 = .ok (.invokestatic 291, 3) := by decide +kernel
theorem w_944 : Cond.methodLink "QuarterWalks" 291 yX8_kernelAt ∈ wAll := wI4 129 (by decide +kernel) (by decide +kernel)
theorem mk_X8_kernelAt : mk yX8_kernelAt 3 := ⟨by decide +kernel, w_103⟩
theorem w_945 : Cond.static yX8_kernelAt ∈ wAll := wI4 130 (by decide +kernel) (by decide +kernel)
theorem w_946 : Cond.code yX8_kernelAt cX8_kernelAt 6 (some .int) ∈ wAll := wI4 131 (by decide +kernel) (by decide +kernel)
theorem dX10_kernel_30 : decode cX10_kernel 30 = .ok (.ireturn, 1) := by decide +kernel
theorem dX10_kernel_38 : decode cX10_kernel 38 = .ok (.ireturn, 1) := by decide +kernel
theorem dX10_turned_0 : decode cX10_turned 0 = .ok (.aload_n 0, 1) := by decide +kernel
theorem dX10_turned_1 : decode cX10_turned 1 = .ok (.getfield 19, 3) := by decide +kernel
theorem dX10_turned_4 : decode cX10_turned 4 = .ok (.iload_n 1, 1) := by decide +kernel
theorem dX10_turned_5 : decode cX10_turned 5 = .ok (.invokevirtual 110, 3) := by decide +kernel
theorem dX10_turned_8 : decode cX10_turned 8 = .ok (.astore 5, 2) := by decide +kernel
theorem dX10_turned_10 : decode cX10_turned 10 = .ok (.aload 5, 2) := by decide +kernel
theorem dX10_turned_12 : decode cX10_turned 12 = .ok (.ifnull 27, 3) := by decide +kernel
theorem dX10_turned_39 : decode cX10_turned 39 = .ok (.iconst (-1), 1) := by decide +kernel
theorem dX10_turned_15 : decode cX10_turned 15 = .ok (.iload_n 2, 1) := by decide +kernel
theorem dX10_turned_16 : decode cX10_turned 16 = .ok (.invokestatic 288, 3) := by decide +kernel
theorem dX10_turned_19 : decode cX10_turned 19 = .ok (.ifCond .eq 20, 3) := by decide +kernel
theorem dX10_turned_22 : decode cX10_turned 22 = .ok (.iload_n 3, 1) := by decide +kernel
theorem dX10_turned_23 : decode cX10_turned 23 = .ok (.invokestatic 288, 3) := by decide +kernel
theorem dX10_turned_26 : decode cX10_turned 26 = .ok (.ifCond .eq 13, 3) := by decide +kernel
theorem dX10_turned_29 : decode cX10_turned 29 = .ok (.iload 4, 2) := by decide +kernel
theorem dX10_turned_31 : decode cX10_turned 31 = .ok (.iconst 0, 1) := by decide +kernel
theorem dX10_turned_32 : decode cX10_turned 32 = .ok (.iconst 1, 1) := by decide +kernel
theorem dX10_turned_33 : decode cX10_turned 33 = .ok (.invokestatic 87, 3) := by decide +kernel
theorem dX10_turned_36 : decode cX10_turned 36 = .ok (.ifCond .ne 5, 3) := by decide +kernel
theorem dX10_turned_41 : decode cX10_turned 41 = .ok (.iload 4, 2) := by decide +kernel
theorem dX10_turned_43 : decode cX10_turned 43 = .ok (.ifCond .ne 13, 3) := by decide +kernel
theorem dX10_turned_56 : decode cX10_turned 56 = .ok (.aload 5, 2) := by decide +kernel
theorem dX10_turned_58 : decode cX10_turned 58 = .ok (.iload_n 2, 1) := by decide +kernel
theorem dX10_turned_59 : decode cX10_turned 59 = .ok (.iload_n 3, 1) := by decide +kernel
theorem dX10_turned_60 : decode cX10_turned 60 = .ok (.invokestatic 297, 3) := by decide +kernel
theorem w_963 : Cond.methodLink "QuarterWalks" 297 yX8_newY ∈ wAll := wI4 148 (by decide +kernel) (by decide +kernel)
theorem dX10_turned_46 : decode cX10_turned 46 = .ok (.aload 5, 2) := by decide +kernel
theorem dX10_turned_48 : decode cX10_turned 48 = .ok (.iload_n 2, 1) := by decide +kernel
theorem dX10_turned_49 : decode cX10_turned 49 = .ok (.iload_n 3, 1) := by decide +kernel
theorem dX10_turned_50 : decode cX10_turned 50 = .ok (.invokestatic 294, 3) := by decide +kernel
theorem w_957 : Cond.methodLink "QuarterWalks" 294 yX8_newX ∈ wAll := wI4 142 (by decide +kernel) (by decide +kernel)
theorem dX10_turned_53 : decode cX10_turned 53 = .ok (.goto 10, 3) := by decide +kernel
theorem dX10_turned_40 : decode cX10_turned 40 = .ok (.ireturn, 1) := by decide +kernel
theorem dX10_turned_63 : decode cX10_turned 63 = .ok (.ireturn, 1) := by decide +kernel
theorem dX10_orbit_0 : decode cX10_orbit 0 = .ok (.aload_n 0, 1) := by decide +kernel
theorem dX10_orbit_1 : decode cX10_orbit 1 = .ok (.getfield 19, 3) := by decide +kernel
theorem dX10_orbit_4 : decode cX10_orbit 4 = .ok (.iload_n 1, 1) := by decide +kernel
theorem dX10_orbit_5 : decode cX10_orbit 5 = .ok (.invokevirtual 110, 3) := by decide +kernel
theorem dX10_orbit_8 : decode cX10_orbit 8 = .ok (.astore 6, 2) := by decide +kernel
theorem dX10_orbit_10 : decode cX10_orbit 10 = .ok (.iload 4, 2) := by decide +kernel
theorem dX10_orbit_12 : decode cX10_orbit 12 = .ok (.iconst (-1), 1) := by decide +kernel
theorem dX10_orbit_13 : decode cX10_orbit 13 = .ok (.if_icmp .eq 13, 3) := by decide +kernel
theorem dX10_orbit_26 : decode cX10_orbit 26 = .ok (.iconst 1, 1) := by decide +kernel
theorem dX10_orbit_27 : decode cX10_orbit 27 = .ok (.goto 4, 3) := by decide +kernel
theorem dX10_orbit_31 : decode cX10_orbit 31 = .ok (.istore 7, 2) := by decide +kernel
theorem dX10_orbit_33 : decode cX10_orbit 33 = .ok (.aload 6, 2) := by decide +kernel
theorem dX10_orbit_35 : decode cX10_orbit 35 = .ok (.ifnull 22, 3) := by decide +kernel
theorem dX10_orbit_57 : decode cX10_orbit 57 = .ok (.bipush (-2), 2) := by decide +kernel
theorem dX10_orbit_38 : decode cX10_orbit 38 = .ok (.iload_n 2, 1) := by decide +kernel
theorem dX10_orbit_39 : decode cX10_orbit 39 = .ok (.invokestatic 288, 3) := by decide +kernel
theorem dX10_orbit_42 : decode cX10_orbit 42 = .ok (.ifCond .eq 15, 3) := by decide +kernel
theorem dX10_orbit_45 : decode cX10_orbit 45 = .ok (.iload_n 3, 1) := by decide +kernel
theorem dX10_orbit_46 : decode cX10_orbit 46 = .ok (.invokestatic 288, 3) := by decide +kernel
theorem dX10_orbit_49 : decode cX10_orbit 49 = .ok (.ifCond .eq 8, 3) := by decide +kernel
theorem dX10_orbit_52 : decode cX10_orbit 52 = .ok (.iload 7, 2) := by decide +kernel
theorem dX10_orbit_54 : decode cX10_orbit 54 = .ok (.ifCond .ne 6, 3) := by decide +kernel
theorem dX10_orbit_60 : decode cX10_orbit 60 = .ok (.aload_n 0, 1) := by decide +kernel
theorem dX10_orbit_61 : decode cX10_orbit 61 = .ok (.getfield 40, 3) := by decide +kernel
theorem w_383 : Cond.fieldLink "QuarterWalks" 40 "QuarterWalks" "turns" "LQuarterWalks$Turns;" ∈ wAll := wI2 48 (by decide +kernel) (by decide +kernel)
theorem fl_X10_40 : fl RX10 40 11 4 := ⟨RX10, TX10, 10, rfl, inA_X10, by decide, w_383⟩
theorem dX10_orbit_64 : decode cX10_orbit 64 = .ok (.aload 6, 2) := by decide +kernel
theorem dX10_orbit_66 : decode cX10_orbit 66 = .ok (.iload_n 2, 1) := by decide +kernel
theorem dX10_orbit_67 : decode cX10_orbit 67 = .ok (.iload_n 3, 1) := by decide +kernel
theorem dX10_orbit_68 : decode cX10_orbit 68 = .ok (.invokevirtual 300, 3) := by decide +kernel
theorem w_970 : Cond.methodLink "QuarterWalks" 300 yX8_follow ∈ wAll := wI4 155 (by decide +kernel) (by decide +kernel)
theorem dX10_orbit_71 : decode cX10_orbit 71 = .ok (.istore 8, 2) := by decide +kernel
theorem dX10_orbit_73 : decode cX10_orbit 73 = .ok (.iload 8, 2) := by decide +kernel
theorem dX10_orbit_75 : decode cX10_orbit 75 = .ok (.iconst (-1), 1) := by decide +kernel
theorem dX10_orbit_76 : decode cX10_orbit 76 = .ok (.if_icmp .eq 9, 3) := by decide +kernel
theorem dX10_orbit_85 : decode cX10_orbit 85 = .ok (.iload 8, 2) := by decide +kernel
theorem dX10_orbit_79 : decode cX10_orbit 79 = .ok (.iload 4, 2) := by decide +kernel
theorem dX10_orbit_81 : decode cX10_orbit 81 = .ok (.iconst (-1), 1) := by decide +kernel
theorem dX10_orbit_82 : decode cX10_orbit 82 = .ok (.if_icmp .ne 6, 3) := by decide +kernel
theorem dX10_orbit_16 : decode cX10_orbit 16 = .ok (.iload 5, 2) := by decide +kernel
theorem dX10_orbit_18 : decode cX10_orbit 18 = .ok (.iconst 0, 1) := by decide +kernel
theorem dX10_orbit_19 : decode cX10_orbit 19 = .ok (.iconst 1, 1) := by decide +kernel
theorem dX10_orbit_20 : decode cX10_orbit 20 = .ok (.invokestatic 87, 3) := by decide +kernel
theorem dX10_orbit_23 : decode cX10_orbit 23 = .ok (.ifCond .eq 7, 3) := by decide +kernel
theorem dX10_orbit_30 : decode cX10_orbit 30 = .ok (.iconst 0, 1) := by decide +kernel
theorem dX10_orbit_88 : decode cX10_orbit 88 = .ok (.iload 4, 2) := by decide +kernel
theorem dX10_orbit_90 : decode cX10_orbit 90 = .ok (.iconst 0, 1) := by decide +kernel
theorem dX10_orbit_91 : decode cX10_orbit 91 = .ok (.iload 8, 2) := by decide +kernel
theorem dX10_orbit_93 : decode cX10_orbit 93 = .ok (.iconst 1, 1) := by decide +kernel
theorem dX10_orbit_94 : decode cX10_orbit 94 = .ok (.isub, 1) := by decide +kernel
theorem dX10_orbit_95 : decode cX10_orbit 95 = .ok (.invokestatic 87, 3) := by decide +kernel
theorem dX10_orbit_98 : decode cX10_orbit 98 = .ok (.ifCond .ne 6, 3) := by decide +kernel
theorem dX10_orbit_104 : decode cX10_orbit 104 = .ok (.iload 5, 2) := by decide +kernel
theorem dX10_orbit_106 : decode cX10_orbit 106 = .ok (.ifCond .ne 16, 3) := by decide +kernel
theorem dX10_orbit_122 : decode cX10_orbit 122 = .ok (.aload_n 0, 1) := by decide +kernel
theorem dX10_orbit_123 : decode cX10_orbit 123 = .ok (.getfield 40, 3) := by decide +kernel
theorem dX10_orbit_126 : decode cX10_orbit 126 = .ok (.getfield 304, 3) := by decide +kernel
theorem w_300 : Cond.fieldLink "QuarterWalks" 304 "QuarterWalks$Turns" "ys" "[I" ∈ wAll := wI1 205 (by decide +kernel) (by decide +kernel)
theorem fl_X10_304 : fl RX10 304 9 1 := ⟨RX8, TX8, 2, rfl, inA_X8, by decide, w_300⟩
theorem dX10_orbit_129 : decode cX10_orbit 129 = .ok (.iload 4, 2) := by decide +kernel
theorem dX10_orbit_131 : decode cX10_orbit 131 = .ok (.iaload, 1) := by decide +kernel
theorem dX10_orbit_109 : decode cX10_orbit 109 = .ok (.aload_n 0, 1) := by decide +kernel
theorem dX10_orbit_110 : decode cX10_orbit 110 = .ok (.getfield 40, 3) := by decide +kernel
theorem dX10_orbit_113 : decode cX10_orbit 113 = .ok (.getfield 301, 3) := by decide +kernel
theorem w_298 : Cond.fieldLink "QuarterWalks" 301 "QuarterWalks$Turns" "xs" "[I" ∈ wAll := wI1 203 (by decide +kernel) (by decide +kernel)
theorem fl_X10_301 : fl RX10 301 9 0 := ⟨RX8, TX8, 2, rfl, inA_X8, by decide, w_298⟩
theorem dX10_orbit_116 : decode cX10_orbit 116 = .ok (.iload 4, 2) := by decide +kernel
theorem dX10_orbit_118 : decode cX10_orbit 118 = .ok (.iaload, 1) := by decide +kernel
theorem dX10_orbit_119 : decode cX10_orbit 119 = .ok (.goto 13, 3) := by decide +kernel
theorem dX10_orbit_101 : decode cX10_orbit 101 = .ok (.bipush (-2), 2) := by decide +kernel
theorem dX10_orbit_59 : decode cX10_orbit 59 = .ok (.ireturn, 1) := by decide +kernel
theorem dX10_orbit_87 : decode cX10_orbit 87 = .ok (.ireturn, 1) := by decide +kernel
theorem dX10_orbit_132 : decode cX10_orbit 132 = .ok (.ireturn, 1) := by decide +kernel
theorem dX10_orbit_103 : decode cX10_orbit 103 = .ok (.ireturn, 1) := by decide +kernel
theorem dX10_group_0 : decode cX10_group 0 = .ok (.aload_n 0, 1) := by decide +kernel
theorem dX10_group_1 : decode cX10_group 1 = .ok (.getfield 19, 3) := by decide +kernel
theorem dX10_group_4 : decode cX10_group 4 = .ok (.iload_n 1, 1) := by decide +kernel
theorem dX10_group_5 : decode cX10_group 5 = .ok (.invokevirtual 110, 3) := by decide +kernel
theorem dX10_group_8 : decode cX10_group 8 = .ok (.astore_n 2, 1) := by decide +kernel
theorem dX10_group_9 : decode cX10_group 9 = .ok (.aload_n 2, 1) := by decide +kernel
theorem dX10_group_10 : decode cX10_group 10 = .ok (.ifnonnull 8, 3) := by decide +kernel
theorem dX10_group_13 : decode cX10_group 13 = .ok (.bipush (-2), 2) := by decide +kernel
theorem dX10_group_15 : decode cX10_group 15 = .ok (.goto 11, 3) := by decide +kernel
theorem dX10_group_18 : decode cX10_group 18 = .ok (.aload_n 0, 1) := by decide +kernel
theorem dX10_group_19 : decode cX10_group 19 = .ok (.getfield 40, 3) := by decide +kernel
theorem dX10_group_22 : decode cX10_group 22 = .ok (.aload_n 2, 1) := by decide +kernel
theorem dX10_group_23 : decode cX10_group 23 = .ok (.invokevirtual 307, 3) := by decide +kernel
theorem w_980 : Cond.methodLink "QuarterWalks" 307 yX8_greatest ∈ wAll := wI4 165 (by decide +kernel) (by decide +kernel)
theorem w_982 : Cond.selects yX8_greatest.cls yX8_greatest yX8_greatest ∈ wAll := wI4 167 (by decide +kernel) (by decide +kernel)
theorem mk_X8_greatest : mk yX8_greatest 1 := ⟨by decide +kernel, w_103⟩
theorem w_981 : Cond.instanceMethod yX8_greatest ∈ wAll := wI4 166 (by decide +kernel) (by decide +kernel)
theorem w_983 : Cond.code yX8_greatest cX8_greatest 5 (some .int) ∈ wAll := wI4 168 (by decide +kernel) (by decide +kernel)
theorem dX10_group_26 : decode cX10_group 26 = .ok (.ireturn, 1) := by decide +kernel
theorem dX10_sum_0 : decode cX10_sum 0 = .ok (.aload_n 0, 1) := by decide +kernel
theorem dX10_sum_1 : decode cX10_sum 1 = .ok (.getfield 19, 3) := by decide +kernel
theorem dX10_sum_4 : decode cX10_sum 4 = .ok (.iload_n 1, 1) := by decide +kernel
theorem dX10_sum_5 : decode cX10_sum 5 = .ok (.invokevirtual 110, 3) := by decide +kernel
theorem dX10_sum_8 : decode cX10_sum 8 = .ok (.astore 4, 2) := by decide +kernel
theorem dX10_sum_10 : decode cX10_sum 10 = .ok (.aload 4, 2) := by decide +kernel
theorem dX10_sum_12 : decode cX10_sum 12 = .ok (.ifnull 17, 3) := by decide +kernel
theorem dX10_sum_29 : decode cX10_sum 29 = .ok (.bipush (-2), 2) := by decide +kernel
theorem dX10_sum_15 : decode cX10_sum 15 = .ok (.iload_n 2, 1) := by decide +kernel
theorem dX10_sum_16 : decode cX10_sum 16 = .ok (.invokestatic 288, 3) := by decide +kernel
theorem dX10_sum_19 : decode cX10_sum 19 = .ok (.ifCond .eq 10, 3) := by decide +kernel
theorem dX10_sum_22 : decode cX10_sum 22 = .ok (.iload_n 3, 1) := by decide +kernel
theorem dX10_sum_23 : decode cX10_sum 23 = .ok (.invokestatic 288, 3) := by decide +kernel
theorem dX10_sum_26 : decode cX10_sum 26 = .ok (.ifCond .ne 6, 3) := by decide +kernel
theorem dX10_sum_32 : decode cX10_sum 32 = .ok (.aload_n 0, 1) := by decide +kernel
theorem dX10_sum_33 : decode cX10_sum 33 = .ok (.getfield 40, 3) := by decide +kernel
theorem dX10_sum_36 : decode cX10_sum 36 = .ok (.aload 4, 2) := by decide +kernel
theorem dX10_sum_38 : decode cX10_sum 38 = .ok (.iload_n 2, 1) := by decide +kernel
theorem dX10_sum_39 : decode cX10_sum 39 = .ok (.iload_n 3, 1) := by decide +kernel
theorem dX10_sum_40 : decode cX10_sum 40 = .ok (.invokevirtual 300, 3) := by decide +kernel
theorem dX10_sum_43 : decode cX10_sum 43 = .ok (.istore 5, 2) := by decide +kernel
theorem dX10_sum_45 : decode cX10_sum 45 = .ok (.iload 5, 2) := by decide +kernel
theorem dX10_sum_47 : decode cX10_sum 47 = .ok (.iconst (-1), 1) := by decide +kernel
theorem dX10_sum_48 : decode cX10_sum 48 = .ok (.if_icmp .ne 7, 3) := by decide +kernel
theorem dX10_sum_55 : decode cX10_sum 55 = .ok (.aload_n 0, 1) := by decide +kernel
theorem dX10_sum_56 : decode cX10_sum 56 = .ok (.getfield 40, 3) := by decide +kernel
theorem dX10_sum_59 : decode cX10_sum 59 = .ok (.iload 5, 2) := by decide +kernel
theorem dX10_sum_61 : decode cX10_sum 61 = .ok (.invokevirtual 310, 3) := by decide +kernel
theorem w_990 : Cond.methodLink "QuarterWalks" 310 yX8_alternating ∈ wAll := wI4 175 (by decide +kernel) (by decide +kernel)
theorem w_992 : Cond.selects yX8_alternating.cls yX8_alternating yX8_alternating ∈ wAll := wI4 177 (by decide +kernel) (by decide +kernel)
theorem mk_X8_alternating : mk yX8_alternating 1 := ⟨by decide +kernel, w_103⟩
theorem w_991 : Cond.instanceMethod yX8_alternating ∈ wAll := wI4 176 (by decide +kernel) (by decide +kernel)
theorem w_993 : Cond.code yX8_alternating cX8_alternating 6 (some .int) ∈ wAll := wI4 178 (by decide +kernel) (by decide +kernel)
theorem dX10_sum_51 : decode cX10_sum 51 = .ok (.iconst (-1), 1) := by decide +kernel
theorem dX10_sum_52 : decode cX10_sum 52 = .ok (.goto 12, 3) := by decide +kernel
theorem dX10_sum_31 : decode cX10_sum 31 = .ok (.ireturn, 1) := by decide +kernel
theorem dX10_sum_64 : decode cX10_sum 64 = .ok (.ireturn, 1) := by decide +kernel
theorem dX10_status_0 : decode cX10_status 0 = .ok (.iload_n 1, 1) := by decide +kernel
theorem dX10_status_1 : decode cX10_status 1 = .ok (.iconst 0, 1) := by decide +kernel
theorem dX10_status_2 : decode cX10_status 2 = .ok (.aload_n 0, 1) := by decide +kernel
theorem dX10_status_3 : decode cX10_status 3 = .ok (.getfield 60, 3) := by decide +kernel
theorem w_386 : Cond.fieldLink "QuarterWalks" 60 "QuarterWalks" "refused" "[I" ∈ wAll := wI2 51 (by decide +kernel) (by decide +kernel)
theorem fl_X10_60 : fl RX10 60 11 7 := ⟨RX10, TX10, 10, rfl, inA_X10, by decide, w_386⟩
theorem dX10_status_6 : decode cX10_status 6 = .ok (.arraylength, 1) := by decide +kernel
theorem dX10_status_7 : decode cX10_status 7 = .ok (.iconst 1, 1) := by decide +kernel
theorem dX10_status_8 : decode cX10_status 8 = .ok (.isub, 1) := by decide +kernel
theorem dX10_status_9 : decode cX10_status 9 = .ok (.invokestatic 87, 3) := by decide +kernel
theorem dX10_status_12 : decode cX10_status 12 = .ok (.ifCond .eq 12, 3) := by decide +kernel
theorem dX10_status_24 : decode cX10_status 24 = .ok (.iconst (-1), 1) := by decide +kernel
theorem dX10_status_15 : decode cX10_status 15 = .ok (.aload_n 0, 1) := by decide +kernel
theorem dX10_status_16 : decode cX10_status 16 = .ok (.getfield 60, 3) := by decide +kernel
theorem dX10_status_19 : decode cX10_status 19 = .ok (.iload_n 1, 1) := by decide +kernel
theorem dX10_status_20 : decode cX10_status 20 = .ok (.iaload, 1) := by decide +kernel
theorem dX10_status_21 : decode cX10_status 21 = .ok (.goto 4, 3) := by decide +kernel
theorem dX10_status_25 : decode cX10_status 25 = .ok (.ireturn, 1) := by decide +kernel
theorem dX10_isRepeated_0 : decode cX10_isRepeated 0 = .ok (.aload_n 0, 1) := by decide +kernel
theorem dX10_isRepeated_1 : decode cX10_isRepeated 1 = .ok (.getfield 19, 3) := by decide +kernel
theorem dX10_isRepeated_4 : decode cX10_isRepeated 4 = .ok (.iload_n 1, 1) := by decide +kernel
theorem dX10_isRepeated_5 : decode cX10_isRepeated 5 = .ok (.invokevirtual 110, 3) := by decide +kernel
theorem dX10_isRepeated_8 : decode cX10_isRepeated 8 = .ok (.astore_n 2, 1) := by decide +kernel
theorem dX10_isRepeated_9 : decode cX10_isRepeated 9 = .ok (.iconst 0, 1) := by decide +kernel
theorem dX10_isRepeated_10 : decode cX10_isRepeated 10 = .ok (.istore_n 3, 1) := by decide +kernel
theorem dX10_isRepeated_11 : decode cX10_isRepeated 11 = .ok (.iload_n 3, 1) := by decide +kernel
theorem dX10_isRepeated_12 : decode cX10_isRepeated 12 = .ok (.iload_n 1, 1) := by decide +kernel
theorem dX10_isRepeated_13 : decode cX10_isRepeated 13 = .ok (.if_icmp .ge 39, 3) := by decide +kernel
theorem dX10_isRepeated_52 : decode cX10_isRepeated 52 = .ok (.iconst 0, 1) := by decide +kernel
theorem dX10_isRepeated_16 : decode cX10_isRepeated 16 = .ok (.aload_n 0, 1) := by decide +kernel
theorem dX10_isRepeated_17 : decode cX10_isRepeated 17 = .ok (.getfield 19, 3) := by decide +kernel
theorem dX10_isRepeated_20 : decode cX10_isRepeated 20 = .ok (.iload_n 3, 1) := by decide +kernel
theorem dX10_isRepeated_21 : decode cX10_isRepeated 21 = .ok (.invokevirtual 110, 3) := by decide +kernel
theorem dX10_isRepeated_24 : decode cX10_isRepeated 24 = .ok (.astore 4, 2) := by decide +kernel
theorem dX10_isRepeated_26 : decode cX10_isRepeated 26 = .ok (.aload_n 2, 1) := by decide +kernel
theorem dX10_isRepeated_27 : decode cX10_isRepeated 27 = .ok (.ifnull 19, 3) := by decide +kernel
theorem dX10_isRepeated_46 : decode cX10_isRepeated 46 = .ok (.iinc 3 1, 3) := by decide +kernel
theorem dX10_isRepeated_49 : decode cX10_isRepeated 49 = .ok (.goto (-38), 3) := by decide +kernel
theorem dX10_isRepeated_30 : decode cX10_isRepeated 30 = .ok (.aload 4, 2) := by decide +kernel
theorem dX10_isRepeated_32 : decode cX10_isRepeated 32 = .ok (.ifnull 14, 3) := by decide +kernel
theorem dX10_isRepeated_35 : decode cX10_isRepeated 35 = .ok (.aload_n 2, 1) := by decide +kernel
theorem dX10_isRepeated_36 : decode cX10_isRepeated 36 = .ok (.aload 4, 2) := by decide +kernel
theorem dX10_isRepeated_38 : decode cX10_isRepeated 38 = .ok (.invokevirtual 396, 3) := by decide +kernel
theorem w_1329 : Cond.methodLink "QuarterWalks" 396 yX6_isSameAs ∈ wAll := wI6 34 (by decide +kernel) (by decide +kernel)
theorem w_1331 : Cond.selects yX6_isSameAs.cls yX6_isSameAs yX6_isSameAs ∈ wAll := wI6 36 (by decide +kernel) (by decide +kernel)
theorem mk_X6_isSameAs : mk yX6_isSameAs 1 := ⟨by decide +kernel, w_115⟩
theorem w_1330 : Cond.instanceMethod yX6_isSameAs ∈ wAll := wI6 35 (by decide +kernel) (by decide +kernel)
theorem w_1332 : Cond.code yX6_isSameAs cX6_isSameAs 3 (some .boolean) ∈ wAll := wI6 37 (by decide +kernel) (by decide +kernel)
theorem dX10_isRepeated_41 : decode cX10_isRepeated 41 = .ok (.ifCond .eq 5, 3) := by decide +kernel
theorem dX10_isRepeated_44 : decode cX10_isRepeated 44 = .ok (.iconst 1, 1) := by decide +kernel
theorem dX10_isRepeated_53 : decode cX10_isRepeated 53 = .ok (.ireturn, 1) := by decide +kernel
theorem dX10_isRepeated_45 : decode cX10_isRepeated 45 = .ok (.ireturn, 1) := by decide +kernel
theorem dX10_unlikeSets_0 : decode cX10_unlikeSets 0 = .ok (.iconst 0, 1) := by decide +kernel
theorem dX10_unlikeSets_1 : decode cX10_unlikeSets 1 = .ok (.istore_n 1, 1) := by decide +kernel
theorem dX10_unlikeSets_2 : decode cX10_unlikeSets 2 = .ok (.iconst 0, 1) := by decide +kernel
theorem dX10_unlikeSets_3 : decode cX10_unlikeSets 3 = .ok (.istore_n 2, 1) := by decide +kernel
theorem dX10_unlikeSets_4 : decode cX10_unlikeSets 4 = .ok (.iload_n 2, 1) := by decide +kernel
theorem dX10_unlikeSets_5 : decode cX10_unlikeSets 5 = .ok (.aload_n 0, 1) := by decide +kernel
theorem dX10_unlikeSets_6 : decode cX10_unlikeSets 6 = .ok (.getfield 19, 3) := by decide +kernel
theorem dX10_unlikeSets_9 : decode cX10_unlikeSets 9 = .ok (.invokevirtual 370, 3) := by decide +kernel
theorem w_1321 : Cond.methodLink "QuarterWalks" 370 yX0_size ∈ wAll := wI6 26 (by decide +kernel) (by decide +kernel)
theorem w_1323 : Cond.selects yX0_size.cls yX0_size yX0_size ∈ wAll := wI6 28 (by decide +kernel) (by decide +kernel)
theorem mk_X0_size : mk yX0_size 0 := ⟨by decide +kernel, w_98⟩
theorem w_1322 : Cond.instanceMethod yX0_size ∈ wAll := wI6 27 (by decide +kernel) (by decide +kernel)
theorem w_1324 : Cond.code yX0_size cX0_size 1 (some .int) ∈ wAll := wI6 29 (by decide +kernel) (by decide +kernel)
theorem dX10_unlikeSets_12 : decode cX10_unlikeSets 12 = .ok (.if_icmp .ge 20, 3) := by decide +kernel
theorem dX10_unlikeSets_32 : decode cX10_unlikeSets 32 = .ok (.iload_n 1, 1) := by decide +kernel
theorem dX10_unlikeSets_15 : decode cX10_unlikeSets 15 = .ok (.aload_n 0, 1) := by decide +kernel
theorem dX10_unlikeSets_16 : decode cX10_unlikeSets 16 = .ok (.iload_n 2, 1) := by decide +kernel
theorem dX10_unlikeSets_17 : decode cX10_unlikeSets 17 = .ok (.invokevirtual 393, 3) := by decide +kernel
theorem w_1325 : Cond.methodLink "QuarterWalks" 393 yX10_isRepeated ∈ wAll := wI6 30 (by decide +kernel) (by decide +kernel)
theorem w_33 : Cond.selects yX10_isRepeated.cls yX10_isRepeated yX10_isRepeated ∈ wAll := wIn 33 (by decide +kernel) (by decide +kernel)
theorem mk_X10_isRepeated : mk yX10_isRepeated 1 := ⟨by decide +kernel, w_96⟩
theorem w_1327 : Cond.instanceMethod yX10_isRepeated ∈ wAll := wI6 32 (by decide +kernel) (by decide +kernel)
theorem w_1328 : Cond.code yX10_isRepeated cX10_isRepeated 5 (some .boolean) ∈ wAll := wI6 33 (by decide +kernel) (by decide +kernel)
theorem dX10_unlikeSets_20 : decode cX10_unlikeSets 20 = .ok (.ifCond .ne 6, 3) := by decide +kernel
theorem dX10_unlikeSets_26 : decode cX10_unlikeSets 26 = .ok (.iinc 2 1, 3) := by decide +kernel
theorem dX10_unlikeSets_29 : decode cX10_unlikeSets 29 = .ok (.goto (-25), 3) := by decide +kernel
theorem dX10_unlikeSets_23 : decode cX10_unlikeSets 23 = .ok (.iinc 1 1, 3) := by decide +kernel
theorem dX10_unlikeSets_33 : decode cX10_unlikeSets 33 = .ok (.ireturn, 1) := by decide +kernel
theorem dX10_commonSteps_0 : decode cX10_commonSteps 0 = .ok (.sipush 255, 3) := by decide +kernel
theorem dX10_commonSteps_3 : decode cX10_commonSteps 3 = .ok (.istore_n 1, 1) := by decide +kernel
theorem dX10_commonSteps_4 : decode cX10_commonSteps 4 = .ok (.iconst 0, 1) := by decide +kernel
theorem dX10_commonSteps_5 : decode cX10_commonSteps 5 = .ok (.istore_n 2, 1) := by decide +kernel
theorem dX10_commonSteps_6 : decode cX10_commonSteps 6 = .ok (.iload_n 2, 1) := by decide +kernel
theorem dX10_commonSteps_7 : decode cX10_commonSteps 7 = .ok (.aload_n 0, 1) := by decide +kernel
theorem dX10_commonSteps_8 : decode cX10_commonSteps 8 = .ok (.getfield 19, 3) := by decide +kernel
theorem dX10_commonSteps_11 : decode cX10_commonSteps 11 = .ok (.invokevirtual 370, 3) := by decide +kernel
theorem dX10_commonSteps_14 : decode cX10_commonSteps 14 = .ok (.if_icmp .ge 29, 3) := by decide +kernel
theorem dX10_commonSteps_43 : decode cX10_commonSteps 43 = .ok (.iload_n 1, 1) := by decide +kernel
theorem dX10_commonSteps_17 : decode cX10_commonSteps 17 = .ok (.aload_n 0, 1) := by decide +kernel
theorem dX10_commonSteps_18 : decode cX10_commonSteps 18 = .ok (.getfield 19, 3) := by decide +kernel
theorem dX10_commonSteps_21 : decode cX10_commonSteps 21 = .ok (.iload_n 2, 1) := by decide +kernel
theorem dX10_commonSteps_22 : decode cX10_commonSteps 22 = .ok (.invokevirtual 110, 3) := by decide +kernel
theorem dX10_commonSteps_25 : decode cX10_commonSteps 25 = .ok (.astore_n 3, 1) := by decide +kernel
theorem dX10_commonSteps_26 : decode cX10_commonSteps 26 = .ok (.aload_n 3, 1) := by decide +kernel
theorem dX10_commonSteps_27 : decode cX10_commonSteps 27 = .ok (.ifnull 10, 3) := by decide +kernel
theorem dX10_commonSteps_37 : decode cX10_commonSteps 37 = .ok (.iinc 2 1, 3) := by decide +kernel
theorem dX10_commonSteps_40 : decode cX10_commonSteps 40 = .ok (.goto (-34), 3) := by decide +kernel
theorem dX10_commonSteps_30 : decode cX10_commonSteps 30 = .ok (.iload_n 1, 1) := by decide +kernel
theorem dX10_commonSteps_31 : decode cX10_commonSteps 31 = .ok (.aload_n 3, 1) := by decide +kernel
theorem dX10_commonSteps_32 : decode cX10_commonSteps 32 = .ok (.invokevirtual 161, 3) := by decide +kernel
theorem dX10_commonSteps_35 : decode cX10_commonSteps 35 = .ok (.iand, 1) := by decide +kernel
theorem dX10_commonSteps_36 : decode cX10_commonSteps 36 = .ok (.istore_n 1, 1) := by decide +kernel
theorem dX10_commonSteps_44 : decode cX10_commonSteps 44 = .ok (.ireturn, 1) := by decide +kernel
theorem dX10_greatestBy_0 : decode cX10_greatestBy 0 = .ok (.iconst (-1), 1) := by decide +kernel
theorem dX10_greatestBy_1 : decode cX10_greatestBy 1 = .ok (.istore_n 2, 1) := by decide +kernel
theorem dX10_greatestBy_2 : decode cX10_greatestBy 2 = .ok (.ldc_w 400, 3) := by decide +kernel
theorem w_1341 : Cond.constant "QuarterWalks" 400 (-2147483648) ∈ wAll := wI6 46 (by decide +kernel) (by decide +kernel)
theorem dX10_greatestBy_5 : decode cX10_greatestBy 5 = .ok (.istore_n 3, 1) := by decide +kernel
theorem dX10_greatestBy_6 : decode cX10_greatestBy 6 = .ok (.iconst 0, 1) := by decide +kernel
theorem dX10_greatestBy_7 : decode cX10_greatestBy 7 = .ok (.istore 4, 2) := by decide +kernel
theorem dX10_greatestBy_9 : decode cX10_greatestBy 9 = .ok (.iload 4, 2) := by decide +kernel
theorem dX10_greatestBy_11 : decode cX10_greatestBy 11 = .ok (.aload_n 0, 1) := by decide +kernel
theorem dX10_greatestBy_12 : decode cX10_greatestBy 12 = .ok (.getfield 19, 3) := by decide +kernel
theorem dX10_greatestBy_15 : decode cX10_greatestBy 15 = .ok (.invokevirtual 370, 3) := by decide +kernel
theorem dX10_greatestBy_18 : decode cX10_greatestBy 18 = .ok (.if_icmp .ge 80, 3) := by decide +kernel
theorem dX10_greatestBy_98 : decode cX10_greatestBy 98 = .ok (.iload_n 2, 1) := by decide +kernel
theorem dX10_greatestBy_21 : decode cX10_greatestBy 21 = .ok (.aload_n 0, 1) := by decide +kernel
theorem dX10_greatestBy_22 : decode cX10_greatestBy 22 = .ok (.getfield 19, 3) := by decide +kernel
theorem dX10_greatestBy_25 : decode cX10_greatestBy 25 = .ok (.iload 4, 2) := by decide +kernel
theorem dX10_greatestBy_27 : decode cX10_greatestBy 27 = .ok (.invokevirtual 110, 3) := by decide +kernel
theorem dX10_greatestBy_30 : decode cX10_greatestBy 30 = .ok (.astore 5, 2) := by decide +kernel
theorem dX10_greatestBy_32 : decode cX10_greatestBy 32 = .ok (.aload 5, 2) := by decide +kernel
theorem dX10_greatestBy_34 : decode cX10_greatestBy 34 = .ok (.ifnonnull 6, 3) := by decide +kernel
theorem dX10_greatestBy_37 : decode cX10_greatestBy 37 = .ok (.goto 55, 3) := by decide +kernel
theorem dX10_greatestBy_92 : decode cX10_greatestBy 92 = .ok (.iinc 4 1, 3) := by decide +kernel
theorem dX10_greatestBy_95 : decode cX10_greatestBy 95 = .ok (.goto (-86), 3) := by decide +kernel
theorem dX10_greatestBy_40 : decode cX10_greatestBy 40 = .ok (.iload_n 1, 1) := by decide +kernel
theorem dX10_greatestBy_41 : decode cX10_greatestBy 41 = .ok (.iconst 2, 1) := by decide +kernel
theorem dX10_greatestBy_42 : decode cX10_greatestBy 42 = .ok (.if_icmp .ne 15, 3) := by decide +kernel
theorem dX10_greatestBy_57 : decode cX10_greatestBy 57 = .ok (.iload_n 1, 1) := by decide +kernel
theorem dX10_greatestBy_58 : decode cX10_greatestBy 58 = .ok (.iconst 1, 1) := by decide +kernel
theorem dX10_greatestBy_59 : decode cX10_greatestBy 59 = .ok (.if_icmp .ne 11, 3) := by decide +kernel
theorem dX10_greatestBy_70 : decode cX10_greatestBy 70 = .ok (.aload 5, 2) := by decide +kernel
theorem dX10_greatestBy_72 : decode cX10_greatestBy 72 = .ok (.invokevirtual 161, 3) := by decide +kernel
theorem dX10_greatestBy_75 : decode cX10_greatestBy 75 = .ok (.invokestatic 164, 3) := by decide +kernel
theorem w_1342 : Cond.methodLink "QuarterWalks" 164 yJ6_bitCount_0f7a4 ∈ wAll := wI6 47 (by decide +kernel) (by decide +kernel)
theorem w_122 : Cond.initialized "java/lang/Integer" ∈ wAll := wI1 27 (by decide +kernel) (by decide +kernel)
theorem mk_J6_bitCount_0f7a4 : mk yJ6_bitCount_0f7a4 1 := ⟨by decide +kernel, w_122⟩
theorem w_1343 : Cond.static yJ6_bitCount_0f7a4 ∈ wAll := wI6 48 (by decide +kernel) (by decide +kernel)
theorem w_1344 : Cond.code yJ6_bitCount_0f7a4 cJ6_bitCount_0f7a4 1 (some .int) ∈ wAll := wI6 49 (by decide +kernel) (by decide +kernel)
theorem dX10_greatestBy_78 : decode cX10_greatestBy 78 = .ok (.istore 6, 2) := by decide +kernel
theorem dX10_greatestBy_80 : decode cX10_greatestBy 80 = .ok (.iload 6, 2) := by decide +kernel
theorem dX10_greatestBy_82 : decode cX10_greatestBy 82 = .ok (.iload_n 3, 1) := by decide +kernel
theorem dX10_greatestBy_83 : decode cX10_greatestBy 83 = .ok (.if_icmp .le 9, 3) := by decide +kernel
theorem dX10_greatestBy_86 : decode cX10_greatestBy 86 = .ok (.iload 6, 2) := by decide +kernel
theorem dX10_greatestBy_88 : decode cX10_greatestBy 88 = .ok (.istore_n 3, 1) := by decide +kernel
theorem dX10_greatestBy_89 : decode cX10_greatestBy 89 = .ok (.iload 4, 2) := by decide +kernel
theorem dX10_greatestBy_91 : decode cX10_greatestBy 91 = .ok (.istore_n 2, 1) := by decide +kernel
theorem dX10_greatestBy_62 : decode cX10_greatestBy 62 = .ok (.aload 5, 2) := by decide +kernel
theorem dX10_greatestBy_64 : decode cX10_greatestBy 64 = .ok (.invokevirtual 149, 3) := by decide +kernel
theorem dX10_greatestBy_67 : decode cX10_greatestBy 67 = .ok (.goto 11, 3) := by decide +kernel
theorem dX10_greatestBy_45 : decode cX10_greatestBy 45 = .ok (.aload_n 0, 1) := by decide +kernel
theorem dX10_greatestBy_46 : decode cX10_greatestBy 46 = .ok (.getfield 40, 3) := by decide +kernel
theorem dX10_greatestBy_49 : decode cX10_greatestBy 49 = .ok (.aload 5, 2) := by decide +kernel
theorem dX10_greatestBy_51 : decode cX10_greatestBy 51 = .ok (.invokevirtual 307, 3) := by decide +kernel
theorem dX10_greatestBy_54 : decode cX10_greatestBy 54 = .ok (.goto 24, 3) := by decide +kernel
theorem dX10_greatestBy_99 : decode cX10_greatestBy 99 = .ok (.ireturn, 1) := by decide +kernel
theorem dX10_most_0 : decode cX10_most 0 = .ok (.iload_n 1, 1) := by decide +kernel
theorem dX10_most_1 : decode cX10_most 1 = .ok (.iconst 0, 1) := by decide +kernel
theorem dX10_most_2 : decode cX10_most 2 = .ok (.iconst 4, 1) := by decide +kernel
theorem dX10_most_3 : decode cX10_most 3 = .ok (.invokestatic 87, 3) := by decide +kernel
theorem dX10_most_6 : decode cX10_most 6 = .ok (.ifCond .ne 5, 3) := by decide +kernel
theorem dX10_most_11 : decode cX10_most 11 = .ok (.iload_n 1, 1) := by decide +kernel
theorem dX10_most_12 : decode cX10_most 12 = .ok (.iconst 3, 1) := by decide +kernel
theorem dX10_most_13 : decode cX10_most 13 = .ok (.if_icmp .ne 8, 3) := by decide +kernel
theorem dX10_most_21 : decode cX10_most 21 = .ok (.aload_n 0, 1) := by decide +kernel
theorem dX10_most_22 : decode cX10_most 22 = .ok (.getfield 19, 3) := by decide +kernel
theorem dX10_most_25 : decode cX10_most 25 = .ok (.invokevirtual 370, 3) := by decide +kernel
theorem dX10_most_28 : decode cX10_most 28 = .ok (.ifCond .ne 5, 3) := by decide +kernel
theorem dX10_most_33 : decode cX10_most 33 = .ok (.iload_n 1, 1) := by decide +kernel
theorem dX10_most_34 : decode cX10_most 34 = .ok (.iconst 4, 1) := by decide +kernel
theorem dX10_most_35 : decode cX10_most 35 = .ok (.if_icmp .ne 10, 3) := by decide +kernel
theorem dX10_most_45 : decode cX10_most 45 = .ok (.aload_n 0, 1) := by decide +kernel
theorem dX10_most_46 : decode cX10_most 46 = .ok (.iload_n 1, 1) := by decide +kernel
theorem dX10_most_47 : decode cX10_most 47 = .ok (.invokevirtual 376, 3) := by decide +kernel
theorem w_1337 : Cond.methodLink "QuarterWalks" 376 yX10_greatestBy ∈ wAll := wI6 42 (by decide +kernel) (by decide +kernel)
theorem w_35 : Cond.selects yX10_greatestBy.cls yX10_greatestBy yX10_greatestBy ∈ wAll := wIn 35 (by decide +kernel) (by decide +kernel)
theorem mk_X10_greatestBy : mk yX10_greatestBy 1 := ⟨by decide +kernel, w_96⟩
theorem w_1339 : Cond.instanceMethod yX10_greatestBy ∈ wAll := wI6 44 (by decide +kernel) (by decide +kernel)
theorem w_1340 : Cond.code yX10_greatestBy cX10_greatestBy 7 (some .int) ∈ wAll := wI6 45 (by decide +kernel) (by decide +kernel)
theorem dX10_most_38 : decode cX10_most 38 = .ok (.aload_n 0, 1) := by decide +kernel
theorem dX10_most_39 : decode cX10_most 39 = .ok (.invokevirtual 373, 3) := by decide +kernel
theorem w_1333 : Cond.methodLink "QuarterWalks" 373 yX10_commonSteps ∈ wAll := wI6 38 (by decide +kernel) (by decide +kernel)
theorem w_34 : Cond.selects yX10_commonSteps.cls yX10_commonSteps yX10_commonSteps ∈ wAll := wIn 34 (by decide +kernel) (by decide +kernel)
theorem mk_X10_commonSteps : mk yX10_commonSteps 0 := ⟨by decide +kernel, w_96⟩
theorem w_1335 : Cond.instanceMethod yX10_commonSteps ∈ wAll := wI6 40 (by decide +kernel) (by decide +kernel)
theorem w_1336 : Cond.code yX10_commonSteps cX10_commonSteps 4 (some .int) ∈ wAll := wI6 41 (by decide +kernel) (by decide +kernel)
theorem dX10_most_42 : decode cX10_most 42 = .ok (.goto 8, 3) := by decide +kernel
theorem dX10_most_31 : decode cX10_most 31 = .ok (.iconst (-1), 1) := by decide +kernel
theorem dX10_most_16 : decode cX10_most 16 = .ok (.aload_n 0, 1) := by decide +kernel
theorem dX10_most_17 : decode cX10_most 17 = .ok (.invokevirtual 367, 3) := by decide +kernel
theorem w_1317 : Cond.methodLink "QuarterWalks" 367 yX10_unlikeSets ∈ wAll := wI6 22 (by decide +kernel) (by decide +kernel)
theorem w_32 : Cond.selects yX10_unlikeSets.cls yX10_unlikeSets yX10_unlikeSets ∈ wAll := wIn 32 (by decide +kernel) (by decide +kernel)
theorem mk_X10_unlikeSets : mk yX10_unlikeSets 0 := ⟨by decide +kernel, w_96⟩
theorem w_1319 : Cond.instanceMethod yX10_unlikeSets ∈ wAll := wI6 24 (by decide +kernel) (by decide +kernel)
theorem w_1320 : Cond.code yX10_unlikeSets cX10_unlikeSets 3 (some .int) ∈ wAll := wI6 25 (by decide +kernel) (by decide +kernel)
theorem dX10_most_9 : decode cX10_most 9 = .ok (.iconst (-1), 1) := by decide +kernel
theorem dX10_most_50 : decode cX10_most 50 = .ok (.ireturn, 1) := by decide +kernel
theorem dX10_most_32 : decode cX10_most 32 = .ok (.ireturn, 1) := by decide +kernel
theorem dX10_most_20 : decode cX10_most 20 = .ok (.ireturn, 1) := by decide +kernel
theorem dX10_most_10 : decode cX10_most 10 = .ok (.ireturn, 1) := by decide +kernel
theorem dX10_count_0 : decode cX10_count 0 = .ok (.iload_n 1, 1) := by decide +kernel
theorem dX10_count_1 : decode cX10_count 1 = .ok (.tableswitch 51 0 2 #[27, 35, 43], 27) := by decide +kernel
theorem sw_0_2 (p : Int32) : p = 0 ∨ p = 1 ∨ p = 2 ∨ (p.toInt < 0 ∨ 2 < p.toInt) := by
  have h : p.toInt = 0 ∨ p.toInt = 1 ∨ p.toInt = 2 ∨ (p.toInt < 0 ∨ 2 < p.toInt) := by omega
  rcases h with h | h | h | h
  · exact Or.inl (Int32.toInt_inj.mp (h.trans rfl))
  · exact Or.inr (Or.inl (Int32.toInt_inj.mp (h.trans rfl)))
  · exact Or.inr (Or.inr (Or.inl (Int32.toInt_inj.mp (h.trans rfl))))
  · exact Or.inr (Or.inr (Or.inr (h)))
theorem dX10_count_28 : decode cX10_count 28 = .ok (.aload_n 0, 1) := by decide +kernel
theorem dX10_count_29 : decode cX10_count 29 = .ok (.getfield 12, 3) := by decide +kernel
theorem w_379 : Cond.fieldLink "QuarterWalks" 12 "QuarterWalks" "tape" "LQuarterWalks$Tape;" ∈ wAll := wI2 44 (by decide +kernel) (by decide +kernel)
theorem fl_X10_12 : fl RX10 12 11 0 := ⟨RX10, TX10, 10, rfl, inA_X10, by decide, w_379⟩
theorem dX10_count_32 : decode cX10_count 32 = .ok (.getfield 79, 3) := by decide +kernel
theorem w_146 : Cond.lays "QuarterWalks$Tape" "QuarterWalks$Tape" "length" "I" ∈ wAll := wI1 51 (by decide +kernel) (by decide +kernel)
theorem w_148 : Cond.laysFinal "QuarterWalks$Tape" "QuarterWalks$Tape" "bytes" "[I" ∈ wAll := wI1 53 (by decide +kernel) (by decide +kernel)
theorem w_150 : Cond.laysFinal "QuarterWalks$Tape" "QuarterWalks$Tape" "weights" "[I" ∈ wAll := wI1 55 (by decide +kernel) (by decide +kernel)
theorem w_152 : Cond.lays "QuarterWalks$Tape" "QuarterWalks$Tape" "startX" "I" ∈ wAll := wI1 57 (by decide +kernel) (by decide +kernel)
theorem w_154 : Cond.lays "QuarterWalks$Tape" "QuarterWalks$Tape" "startY" "I" ∈ wAll := wI1 59 (by decide +kernel) (by decide +kernel)
theorem w_156 : Cond.lays "QuarterWalks$Tape" "QuarterWalks$Tape" "behind" "I" ∈ wAll := wI1 61 (by decide +kernel) (by decide +kernel)
theorem w_158 : Cond.lays "QuarterWalks$Tape" "QuarterWalks$Tape" "lastStep" "I" ∈ wAll := wI1 63 (by decide +kernel) (by decide +kernel)
theorem inA_X7 : ∀ w ∈ u_ws RX7 TX7 7, w ∈ wAll := List.forall_mem_cons.mpr ⟨w_146, List.forall_mem_cons.mpr ⟨w_148, List.forall_mem_cons.mpr ⟨w_150, List.forall_mem_cons.mpr ⟨w_152, List.forall_mem_cons.mpr ⟨w_154, List.forall_mem_cons.mpr ⟨w_156, List.forall_mem_cons.mpr ⟨w_158, fun _ h => absurd h List.not_mem_nil⟩⟩⟩⟩⟩⟩⟩
theorem w_138 : Cond.fieldLink "QuarterWalks" 79 "QuarterWalks$Tape" "length" "I" ∈ wAll := wI1 43 (by decide +kernel) (by decide +kernel)
theorem fl_X10_79 : fl RX10 79 8 0 := ⟨RX7, TX7, 7, rfl, inA_X7, by decide, w_138⟩
theorem dX10_count_36 : decode cX10_count 36 = .ok (.aload_n 0, 1) := by decide +kernel
theorem dX10_count_37 : decode cX10_count 37 = .ok (.getfield 19, 3) := by decide +kernel
theorem dX10_count_40 : decode cX10_count 40 = .ok (.getfield 379, 3) := by decide +kernel
theorem w_187 : Cond.fieldLink "QuarterWalks" 379 "QuarterWalks$Book" "past" "I" ∈ wAll := wI1 92 (by decide +kernel) (by decide +kernel)
theorem fl_X10_379 : fl RX10 379 1 0 := ⟨RX0, TX0, 6, rfl, inA_X0, by decide, w_187⟩
theorem dX10_count_44 : decode cX10_count 44 = .ok (.aload_n 0, 1) := by decide +kernel
theorem dX10_count_45 : decode cX10_count 45 = .ok (.getfield 19, 3) := by decide +kernel
theorem dX10_count_48 : decode cX10_count 48 = .ok (.invokevirtual 370, 3) := by decide +kernel
theorem dX10_count_52 : decode cX10_count 52 = .ok (.iconst (-1), 1) := by decide +kernel
theorem dX10_count_35 : decode cX10_count 35 = .ok (.ireturn, 1) := by decide +kernel
theorem dX10_count_43 : decode cX10_count 43 = .ok (.ireturn, 1) := by decide +kernel
theorem dX10_count_51 : decode cX10_count 51 = .ok (.ireturn, 1) := by decide +kernel
theorem dX10_count_53 : decode cX10_count 53 = .ok (.ireturn, 1) := by decide +kernel
abbrev rm_s_X10_at : Room := { frames := 5, cells := 0, slots := 0, locals := 112 }
set_option maxRecDepth 100000 in
set_option maxHeartbeats 4000000 in
theorem s_X10_at (l : Launch) (D : va_G) (G : Nat → Nat) (b0 : Nat) (τ : Nat → Nat) (f : hM) (t : TI G 9 τ f) (u0 : Nat) (hu0 : τ u0 = 10) (u1 : Int32) (hu1 : iv u1 (-2147483648) 2147483647) (u2 : Int32) (hu2 : iv u2 (-2147483648) 2147483647) (u3 : Int32) (hu3 : iv u3 (-2147483648) 2147483647) (u4 : Int32) (hu4 : iv u4 (-2147483648) 2147483647) (u5 : Int32) (hu5 : iv u5 (-2147483648) 2147483647) (gq rq mq : Nat) (hgq : τ gq = 20) (kq2 : atp f u0 (fd 2 (.ref gq))) (hGJ : GJ τ f gq rq mq) : mI l yX10_at cX10_at 7 (.int) rm_s_X10_at D G b0 f [.ref u0, .int u1, .int u2, .int u3, .int u4, .int u5] (fun r f1 => iv r (-2147483648) 2147483647 ∧ TI G 9 τ f1 ∧ Fr [20, 21, 22, 23, 24, 25, 20001, 20002, 20007, 20008, 20009, 20010, 20011, 22001, 22002, 22003, 22004, 23001, 23002, 23003, 23004] τ f f1 ∧ GJ τ f1 gq rq mq) := by
  refine met2 (own := RX10) (by decide) rfl (Nat.le_of_ble_eq_true rfl) ?_
  intro p e s m args below meth c ls Q hQ C hr hini hl h
  have hl : lv_has ls 7 [(0, .ref u0), (1, .int u1), (2, .int u2), (3, .int u3), (4, .int u4), (5, .int u5)] := hl
  obtain ⟨hx, hb, hml, hown, hts, hE0, hlk⟩ := id C
  have o := Fr.rf [20, 21, 22, 23, 24, 25, 20001, 20002, 20007, 20008, 20009, 20010, 20011, 22001, 22002, 22003, 22004, 23001, 23002, 23003, 23004] τ f
  refine lv_aload_n hx hb dX10_at_0 rfl (lv_at hl 0 rfl) ?_
  refine t_getr (tq := 12) C h t hu0 (by decide) wf_10 rfl fl_X10_19 dX10_at_1 (fun q1 tq1 => ?_)
  refine lv_iload_n hx hb dX10_at_4 rfl (lv_at hl 2 rfl) ?_
  obtain ⟨_, r2⟩ := t_rec t tq1 (by decide) wf_12
  refine k_q (r_V C h hl (As := [.int u2]) (rest := []) (s_X0_find l D G b0 τ f t q1 tq1 u2 hu2) r2 (Cn := RX0) (T := TX0) (N := 6) rfl rfl mk_X0_find w_594 w_595 w_596 w_597 ⟨Nat.le_of_ble_eq_true rfl, Nat.le_of_ble_eq_true rfl⟩ rfl (Nat.le_of_ble_eq_true rfl) ⟨Nat.le_of_ble_eq_true rfl, Nat.le_of_ble_eq_true rfl⟩ rfl dX10_at_5) h (fun r3 f4 H locs p5 h => ?_)
  obtain ⟨qr3, tf4, ogf4⟩ := p5
  have egf4 := Fr.nil2 ogf4
  subst egf4
  have tr3 := qr3
  refine lv_astoreO (lv' := [(6, va_rf r3), (0, .ref u0), (1, .int u1), (2, .int u2), (3, .int u3), (4, .int u4), (5, .int u5)]) hx hb dX10_at_8 hl (by decide) rfl (fun ls hl => ?_)
  refine lv_aloadO hx hb dX10_at_10 (lv_at hl 0 rfl) ?_
  rcases va_rfc r3 with eq7 | ⟨q7, eq7⟩
  · subst eq7
    have hl : lv_has ls 7 [(6, .null), (0, .ref u0), (1, .int u1), (2, .int u2), (3, .int u3), (4, .int u4), (5, .int u5)] := hl
    show W _ _ _ _ _ _ _ _ _ _ _ _ _ _ _ (F0 m 12 ls [.null])
    refine lv_ifnullN (tgt := 41) hx hb dX10_at_12 (by decide) ?_
    refine lv_iconst (v := -1) hx hb dX10_at_41 (by decide) ?_
    exact u_iret C h hr hQ (⟨⟨by decide, by decide⟩, t, o, hGJ⟩) (Nat.le_of_ble_eq_true rfl) (Nat.le_of_ble_eq_true rfl) dX10_at_42
  · subst eq7
    have tq7 : τ q7 = 1 := tr3 _ rfl
    have hl : lv_has ls 7 [(6, .ref q7), (0, .ref u0), (1, .int u1), (2, .int u2), (3, .int u3), (4, .int u4), (5, .int u5)] := hl
    show W _ _ _ _ _ _ _ _ _ _ _ _ _ _ _ (F0 m 12 ls [.ref q7])
    refine lv_ifnull hx hb dX10_at_12 ?_
    refine lv_iload_n hx hb dX10_at_15 rfl (lv_at hl 2 rfl) ?_
    refine lv_iconst (v := 0) hx hb dX10_at_16 (by decide) ?_
    refine lv_iconst (v := 2) hx hb dX10_at_17 (by decide) ?_
    refine k_i (r_S C h hl (As := [.int u1, .int 0, .int 2]) (rest := []) (s_X10_within l D G b0 τ f t u1 hu1 0 (iv_w (iv_k (x := 0) (k := 0) rfl) (by decide)) 2 (iv_w (iv_k (x := 2) (k := 2) rfl) (by decide))) mk_X10_within w_425 w_426 w_427 ⟨Nat.le_of_ble_eq_true rfl, Nat.le_of_ble_eq_true rfl⟩ rfl (Nat.le_of_ble_eq_true rfl) ⟨Nat.le_of_ble_eq_true rfl, Nat.le_of_ble_eq_true rfl⟩ rfl dX10_at_18) h (fun r8 f9 H locs p10 h => ?_)
    have n11 : (0 : Int32).toInt = 0 := rfl
    have n12 : (2 : Int32).toInt = 2 := rfl
    obtain ⟨ir8, tf9, ogf9, cnr8, czr8⟩ := p10
    have egf9 := Fr.nil2 ogf9
    subst egf9
    refine lv_if_eq (tgt := 41) hx hb dX10_at_21 (by decide) (fun c13 => ?_) (fun c13 => ?_)
    · have c14 : r8.toInt = 0 := congrArg Int32.toInt c13
      have i15 : iv r8 0 0 := iv_Q c14 ir8 (iv_k (x := 0) (k := 0) rfl) (by decide)
      have i16 := czr8 c14
      refine lv_iconst (v := -1) hx hb dX10_at_41 (by decide) ?_
      exact u_iret C h hr hQ (⟨⟨by decide, by decide⟩, t, o, hGJ⟩) (Nat.le_of_ble_eq_true rfl) (Nat.le_of_ble_eq_true rfl) dX10_at_42
    · have c17 : r8.toInt ≠ 0 := fun z_ => c13 (Int32.toInt_inj.mp z_)
      have i18 : iv r8 1 1 := iv_Nl c17 ir8 (by decide)
      obtain ⟨i19, i20⟩ := cnr8 c17
      have i21 : iv u1 0 2 := ⟨by omega, by omega⟩
      refine lv_iload_n hx hb dX10_at_24 rfl (lv_at hl 4 rfl) ?_
      refine k_i (r_S C h hl (As := [.int u3]) (rest := []) (s_X10_isLength l D G b0 τ f t u3 hu3) mk_X10_isLength w_653 w_654 w_655 ⟨Nat.le_of_ble_eq_true rfl, Nat.le_of_ble_eq_true rfl⟩ rfl (Nat.le_of_ble_eq_true rfl) ⟨Nat.le_of_ble_eq_true rfl, Nat.le_of_ble_eq_true rfl⟩ rfl dX10_at_25) h (fun r22 f23 H locs p24 h => ?_)
      obtain ⟨ir22, tf23, ogf23, cnr22⟩ := p24
      have egf23 := Fr.nil2 ogf23
      subst egf23
      refine lv_if_eq (tgt := 41) hx hb dX10_at_28 (by decide) (fun c25 => ?_) (fun c25 => ?_)
      · have c26 : r22.toInt = 0 := congrArg Int32.toInt c25
        have i27 : iv r22 0 0 := iv_Q c26 ir22 (iv_k (x := 0) (k := 0) rfl) (by decide)
        refine lv_iconst (v := -1) hx hb dX10_at_41 (by decide) ?_
        exact u_iret C h hr hQ (⟨⟨by decide, by decide⟩, t, o, hGJ⟩) (Nat.le_of_ble_eq_true rfl) (Nat.le_of_ble_eq_true rfl) dX10_at_42
      · have c28 : r22.toInt ≠ 0 := fun z_ => c25 (Int32.toInt_inj.mp z_)
        have i29 : iv r22 1 1 := iv_Nl c28 ir22 (by decide)
        have i30 := cnr22 c28
        refine lv_iload hx hb dX10_at_31 (lv_at hl 5 rfl) ?_
        refine lv_iload hx hb dX10_at_33 (lv_at hl 6 rfl) ?_
        refine k_i (r_S C h hl (As := [.int u4, .int u5]) (rest := []) (s_X10_isNear l D G b0 τ f t u4 hu4 u5 hu5) mk_X10_isNear w_656 w_657 w_658 ⟨Nat.le_of_ble_eq_true rfl, Nat.le_of_ble_eq_true rfl⟩ rfl (Nat.le_of_ble_eq_true rfl) ⟨Nat.le_of_ble_eq_true rfl, Nat.le_of_ble_eq_true rfl⟩ rfl dX10_at_35) h (fun r31 f32 H locs p33 h => ?_)
        obtain ⟨ir31, tf32, ogf32, cnr31⟩ := p33
        have egf32 := Fr.nil2 ogf32
        subst egf32
        refine lv_if_ne (tgt := 43) hx hb dX10_at_38 (by decide) (fun c34 => ?_) (fun c34 => ?_)
        · have c35 : r31.toInt ≠ 0 := fun z_ => c34 (Int32.toInt_inj.mp z_)
          have i36 : iv r31 1 1 := iv_Nl c35 ir31 (by decide)
          obtain ⟨i37, i38⟩ := cnr31 c35
          refine lv_aload_n hx hb dX10_at_43 rfl (lv_at hl 1 rfl) ?_
          refine t_getfd C h t hu0 (by decide) wf_10 (v := .ref gq) kq2 fl_X10_26 dX10_at_44 ?_
          refine lv_aload hx hb dX10_at_47 (lv_at hl 0 rfl) ?_
          refine lv_iconst (v := 0) hx hb dX10_at_49 (by decide) ?_
          refine lv_iload_n hx hb dX10_at_50 rfl (lv_at hl 2 rfl) ?_
          refine lv_iload_n hx hb dX10_at_51 rfl (lv_at hl 4 rfl) ?_
          obtain ⟨wqP52, twP52, kwP52⟩ := t_fref (tq := 2) (k := 0) t tq7 (by decide) wf_1 rfl
          obtain ⟨sxP52, isxP52, kxP52⟩ := t_fint (k := 1) t tq7 (by decide) wf_1 rfl
          obtain ⟨syP52, isyP52, kyP52⟩ := t_fint (k := 2) t tq7 (by decide) wf_1 rfl
          obtain ⟨wwP52, krP52, hwP52⟩ := ia_get t twP52 (by decide) wf_2
          obtain ⟨_, r41⟩ := t_rec t hgq (by decide) wf_20
          refine k_v (r_V C h hl (As := [.ref q7, .int 0, .int u1, .int u3]) (rest := []) (s_X2_go l D G b0 τ f t gq hgq q7 tq7 0 (iv_w (iv_k (x := 0) (k := 0) rfl) (by decide)) u1 (iv_w i21 (by decide)) u3 i30 wqP52 twP52 kwP52 sxP52 isxP52 kxP52 syP52 isyP52 kyP52 rq mq hGJ wwP52 krP52 (row10 wwP52 sxP52 syP52) 0 (row10_in hwP52)) r41 (Cn := RX2) (T := TX2) (N := 11) rfl rfl mk_X2_go w_659 w_660 w_661 w_662 ⟨Nat.le_of_ble_eq_true rfl, Nat.le_of_ble_eq_true rfl⟩ rfl (Nat.le_of_ble_eq_true rfl) ⟨Nat.le_of_ble_eq_true rfl, Nat.le_of_ble_eq_true rfl⟩ rfl dX10_at_52) h (fun f43 H locs p44 h => ?_)
          have n45 : (0 : Int32).toInt = 0 := rfl
          obtain ⟨tf43, ogf43, x0r42, gjf43⟩ := p44
          have of43 : Fr [20, 21, 22, 23, 24, 25, 20001, 20002, 20007, 20008, 20009, 20010, 20011, 22001, 22002, 22003, 22004, 23001, 23002, 23003, 23004] τ f f43 := Fr.tr o ogf43 (by decide) (by decide)
          have k46 := atp.fr kq2 ogf43 hu0 (by decide)
          have k47 := atp.fr kwP52 ogf43 tq7 (by decide)
          have k48 := atp.fr krP52 ogf43 twP52 (by decide)
          have k49 := atp.fr kxP52 ogf43 tq7 (by decide)
          have k50 := atp.fr kyP52 ogf43 tq7 (by decide)
          refine lv_aload_n hx hb dX10_at_55 rfl (lv_at hl 1 rfl) ?_
          refine t_getfd C h tf43 hu0 (by decide) wf_10 (v := .ref gq) k46 fl_X10_26 dX10_at_56 ?_
          refine lv_iload hx hb dX10_at_59 (lv_at hl 5 rfl) ?_
          refine lv_iload hx hb dX10_at_61 (lv_at hl 6 rfl) ?_
          obtain ⟨_, r51⟩ := t_rec tf43 hgq (by decide) wf_20
          refine k_l (r_V C h hl (As := [.int u4, .int u5]) (rest := []) (s_X2_seen l D G b0 τ f43 tf43 gq hgq u4 (iv_w i37 (by decide)) u5 (iv_w i38 (by decide)) rq mq gjf43) r51 (Cn := RX2) (T := TX2) (N := 11) rfl rfl mk_X2_seen w_709 w_710 w_711 w_712 ⟨Nat.le_of_ble_eq_true rfl, Nat.le_of_ble_eq_true rfl⟩ rfl (Nat.le_of_ble_eq_true rfl) ⟨Nat.le_of_ble_eq_true rfl, Nat.le_of_ble_eq_true rfl⟩ rfl dX10_at_63) h (fun r52 f53 H locs p54 h => ?_)
          obtain ⟨tf53, ogf53⟩ := p54
          have egf53 := Fr.nil2 ogf53
          subst egf53
          refine lv_l2i hx hb dX10_at_66 rfl (i_top (iv_any _) (fun z55 ez55 iz55 => ?_))
          exact u_iret C h hr hQ (⟨iz55, tf43, of43, gjf43⟩) (Nat.le_of_ble_eq_true rfl) (Nat.le_of_ble_eq_true rfl) dX10_at_67
        · have c39 : r31.toInt = 0 := congrArg Int32.toInt c34
          have i40 : iv r31 0 0 := iv_Q c39 ir31 (iv_k (x := 0) (k := 0) rfl) (by decide)
          refine lv_iconst (v := -1) hx hb dX10_at_41 (by decide) ?_
          exact u_iret C h hr hQ (⟨⟨by decide, by decide⟩, t, o, hGJ⟩) (Nat.le_of_ble_eq_true rfl) (Nat.le_of_ble_eq_true rfl) dX10_at_42
abbrev rm_s_X10_exact : Room := { frames := 5, cells := 0, slots := 0, locals := 112 }
set_option maxRecDepth 100000 in
set_option maxHeartbeats 4000000 in
theorem s_X10_exact (l : Launch) (D : va_G) (G : Nat → Nat) (b0 : Nat) (τ : Nat → Nat) (f : hM) (t : TI G 9 τ f) (u0 : Nat) (hu0 : τ u0 = 10) (u1 : Int32) (hu1 : iv u1 (-2147483648) 2147483647) (u2 : Int32) (hu2 : iv u2 (-2147483648) 2147483647) (u3 : Int32) (hu3 : iv u3 (-2147483648) 2147483647) (u4 : Int32) (hu4 : iv u4 (-2147483648) 2147483647) (gq rq mq : Nat) (hgq : τ gq = 20) (kq2 : atp f u0 (fd 2 (.ref gq))) (hGJ : GJ τ f gq rq mq) : mL l yX10_exact cX10_exact 6 rm_s_X10_exact D G b0 f [.ref u0, .int u1, .int u2, .int u3, .int u4] (fun r f1 => TI G 9 τ f1 ∧ Fr [20, 21, 22, 23, 24, 25, 20001, 20002, 20007, 20008, 20009, 20010, 20011, 22001, 22002, 22003, 22004, 23001, 23002, 23003, 23004] τ f f1 ∧ GJ τ f1 gq rq mq) := by
  refine met2 (own := RX10) (by decide) rfl (Nat.le_of_ble_eq_true rfl) ?_
  intro p e s m args below meth c ls Q hQ C hr hini hl h
  have hl : lv_has ls 6 [(0, .ref u0), (1, .int u1), (2, .int u2), (3, .int u3), (4, .int u4)] := hl
  obtain ⟨hx, hb, hml, hown, hts, hE0, hlk⟩ := id C
  have o := Fr.rf [20, 21, 22, 23, 24, 25, 20001, 20002, 20007, 20008, 20009, 20010, 20011, 22001, 22002, 22003, 22004, 23001, 23002, 23003, 23004] τ f
  refine lv_aload_n hx hb dX10_exact_0 rfl (lv_at hl 0 rfl) ?_
  refine t_getr (tq := 12) C h t hu0 (by decide) wf_10 rfl fl_X10_19 dX10_exact_1 (fun q1 tq1 => ?_)
  refine lv_iload_n hx hb dX10_exact_4 rfl (lv_at hl 1 rfl) ?_
  obtain ⟨_, r2⟩ := t_rec t tq1 (by decide) wf_12
  refine k_q (r_V C h hl (As := [.int u1]) (rest := []) (s_X0_find l D G b0 τ f t q1 tq1 u1 hu1) r2 (Cn := RX0) (T := TX0) (N := 6) rfl rfl mk_X0_find w_594 w_595 w_596 w_597 ⟨Nat.le_of_ble_eq_true rfl, Nat.le_of_ble_eq_true rfl⟩ rfl (Nat.le_of_ble_eq_true rfl) ⟨Nat.le_of_ble_eq_true rfl, Nat.le_of_ble_eq_true rfl⟩ rfl dX10_exact_5) h (fun r3 f4 H locs p5 h => ?_)
  obtain ⟨qr3, tf4, ogf4⟩ := p5
  have egf4 := Fr.nil2 ogf4
  subst egf4
  have tr3 := qr3
  refine lv_astoreO (lv' := [(5, va_rf r3), (0, .ref u0), (1, .int u1), (2, .int u2), (3, .int u3), (4, .int u4)]) hx hb dX10_exact_8 hl (by decide) rfl (fun ls hl => ?_)
  refine lv_aloadO hx hb dX10_exact_10 (lv_at hl 0 rfl) ?_
  rcases va_rfc r3 with eq7 | ⟨q7, eq7⟩
  · subst eq7
    have hl : lv_has ls 6 [(5, .null), (0, .ref u0), (1, .int u1), (2, .int u2), (3, .int u3), (4, .int u4)] := hl
    show W _ _ _ _ _ _ _ _ _ _ _ _ _ _ _ (F0 m 12 ls [.null])
    refine lv_ifnullN (tgt := 43) hx hb dX10_exact_12 (by decide) ?_
    refine lv_ldc2 (v := -1) hx hb hown (hts _ w_757) dX10_exact_43 ?_
    exact u_lret C h hr hQ (⟨t, o, hGJ⟩) (Nat.le_of_ble_eq_true rfl) (Nat.le_of_ble_eq_true rfl) dX10_exact_46
  · subst eq7
    have tq7 : τ q7 = 1 := tr3 _ rfl
    have hl : lv_has ls 6 [(5, .ref q7), (0, .ref u0), (1, .int u1), (2, .int u2), (3, .int u3), (4, .int u4)] := hl
    show W _ _ _ _ _ _ _ _ _ _ _ _ _ _ _ (F0 m 12 ls [.ref q7])
    refine lv_ifnull hx hb dX10_exact_12 ?_
    refine lv_iload_n hx hb dX10_exact_15 rfl (lv_at hl 3 rfl) ?_
    refine k_i (r_S C h hl (As := [.int u2]) (rest := []) (s_X10_isLength l D G b0 τ f t u2 hu2) mk_X10_isLength w_653 w_654 w_655 ⟨Nat.le_of_ble_eq_true rfl, Nat.le_of_ble_eq_true rfl⟩ rfl (Nat.le_of_ble_eq_true rfl) ⟨Nat.le_of_ble_eq_true rfl, Nat.le_of_ble_eq_true rfl⟩ rfl dX10_exact_16) h (fun r8 f9 H locs p10 h => ?_)
    obtain ⟨ir8, tf9, ogf9, cnr8⟩ := p10
    have egf9 := Fr.nil2 ogf9
    subst egf9
    refine lv_if_eq (tgt := 43) hx hb dX10_exact_19 (by decide) (fun c11 => ?_) (fun c11 => ?_)
    · have c12 : r8.toInt = 0 := congrArg Int32.toInt c11
      have i13 : iv r8 0 0 := iv_Q c12 ir8 (iv_k (x := 0) (k := 0) rfl) (by decide)
      refine lv_ldc2 (v := -1) hx hb hown (hts _ w_757) dX10_exact_43 ?_
      exact u_lret C h hr hQ (⟨t, o, hGJ⟩) (Nat.le_of_ble_eq_true rfl) (Nat.le_of_ble_eq_true rfl) dX10_exact_46
    · have c14 : r8.toInt ≠ 0 := fun z_ => c11 (Int32.toInt_inj.mp z_)
      have i15 : iv r8 1 1 := iv_Nl c14 ir8 (by decide)
      have i16 := cnr8 c14
      refine lv_iload_n hx hb dX10_exact_22 rfl (lv_at hl 4 rfl) ?_
      refine lv_iload hx hb dX10_exact_23 (lv_at hl 5 rfl) ?_
      refine k_i (r_S C h hl (As := [.int u3, .int u4]) (rest := []) (s_X10_isNear l D G b0 τ f t u3 hu3 u4 hu4) mk_X10_isNear w_656 w_657 w_658 ⟨Nat.le_of_ble_eq_true rfl, Nat.le_of_ble_eq_true rfl⟩ rfl (Nat.le_of_ble_eq_true rfl) ⟨Nat.le_of_ble_eq_true rfl, Nat.le_of_ble_eq_true rfl⟩ rfl dX10_exact_25) h (fun r17 f18 H locs p19 h => ?_)
      obtain ⟨ir17, tf18, ogf18, cnr17⟩ := p19
      have egf18 := Fr.nil2 ogf18
      subst egf18
      refine lv_if_eq (tgt := 43) hx hb dX10_exact_28 (by decide) (fun c20 => ?_) (fun c20 => ?_)
      · have c21 : r17.toInt = 0 := congrArg Int32.toInt c20
        have i22 : iv r17 0 0 := iv_Q c21 ir17 (iv_k (x := 0) (k := 0) rfl) (by decide)
        refine lv_ldc2 (v := -1) hx hb hown (hts _ w_757) dX10_exact_43 ?_
        exact u_lret C h hr hQ (⟨t, o, hGJ⟩) (Nat.le_of_ble_eq_true rfl) (Nat.le_of_ble_eq_true rfl) dX10_exact_46
      · have c23 : r17.toInt ≠ 0 := fun z_ => c20 (Int32.toInt_inj.mp z_)
        have i24 : iv r17 1 1 := iv_Nl c23 ir17 (by decide)
        obtain ⟨i25, i26⟩ := cnr17 c23
        refine lv_aload hx hb dX10_exact_31 (lv_at hl 0 rfl) ?_
        obtain ⟨_, r27⟩ := t_rec t tq7 (by decide) wf_1
        refine k_i (r_V C h hl (As := []) (rest := []) (s_X6_weightTotal l D G b0 τ f t q7 tq7) r27 (Cn := RX6) (T := TX6) (N := 4) rfl rfl mk_X6_weightTotal w_636 w_637 w_638 w_639 ⟨Nat.le_of_ble_eq_true rfl, Nat.le_of_ble_eq_true rfl⟩ rfl (Nat.le_of_ble_eq_true rfl) ⟨Nat.le_of_ble_eq_true rfl, Nat.le_of_ble_eq_true rfl⟩ rfl dX10_exact_33) h (fun r28 f29 H locs p30 h => ?_)
        obtain ⟨ir28, tf29, ogf29⟩ := p30
        have egf29 := Fr.nil2 ogf29
        subst egf29
        refine lv_iload_n hx hb dX10_exact_36 rfl (lv_at hl 3 rfl) ?_
        refine k_i (r_S C h hl (As := [.int r28, .int u2]) (rest := []) (s_X10_fitsLong l D G b0 τ f t r28 ir28 u2 (iv_w i16 (by decide))) mk_X10_fitsLong w_753 w_754 w_755 ⟨Nat.le_of_ble_eq_true rfl, Nat.le_of_ble_eq_true rfl⟩ rfl (Nat.le_of_ble_eq_true rfl) ⟨Nat.le_of_ble_eq_true rfl, Nat.le_of_ble_eq_true rfl⟩ rfl dX10_exact_37) h (fun r31 f32 H locs p33 h => ?_)
        obtain ⟨ir31, tf32, ogf32⟩ := p33
        have egf32 := Fr.nil2 ogf32
        subst egf32
        refine lv_if_ne (tgt := 47) hx hb dX10_exact_40 (by decide) (fun c34 => ?_) (fun c34 => ?_)
        · have c35 : r31.toInt ≠ 0 := fun z_ => c34 (Int32.toInt_inj.mp z_)
          have i36 : iv r31 1 1 := iv_Nl c35 ir31 (by decide)
          refine lv_aload_n hx hb dX10_exact_47 rfl (lv_at hl 1 rfl) ?_
          refine t_getfd C h t hu0 (by decide) wf_10 (v := .ref gq) kq2 fl_X10_26 dX10_exact_48 ?_
          refine lv_aload hx hb dX10_exact_51 (lv_at hl 0 rfl) ?_
          refine lv_iconst (v := 1) hx hb dX10_exact_53 (by decide) ?_
          refine lv_iconst (v := 0) hx hb dX10_exact_54 (by decide) ?_
          refine lv_iload_n hx hb dX10_exact_55 rfl (lv_at hl 3 rfl) ?_
          obtain ⟨wqP56, twP56, kwP56⟩ := t_fref (tq := 2) (k := 0) t tq7 (by decide) wf_1 rfl
          obtain ⟨sxP56, isxP56, kxP56⟩ := t_fint (k := 1) t tq7 (by decide) wf_1 rfl
          obtain ⟨syP56, isyP56, kyP56⟩ := t_fint (k := 2) t tq7 (by decide) wf_1 rfl
          obtain ⟨wwP56, krP56, hwP56⟩ := ia_get t twP56 (by decide) wf_2
          obtain ⟨_, r39⟩ := t_rec t hgq (by decide) wf_20
          refine k_v (r_V C h hl (As := [.ref q7, .int 1, .int 0, .int u2]) (rest := []) (s_X2_go l D G b0 τ f t gq hgq q7 tq7 1 (iv_w (iv_k (x := 1) (k := 1) rfl) (by decide)) 0 (iv_w (iv_k (x := 0) (k := 0) rfl) (by decide)) u2 i16 wqP56 twP56 kwP56 sxP56 isxP56 kxP56 syP56 isyP56 kyP56 rq mq hGJ wwP56 krP56 (row10 wwP56 sxP56 syP56) 0 (row10_in hwP56)) r39 (Cn := RX2) (T := TX2) (N := 11) rfl rfl mk_X2_go w_659 w_660 w_661 w_662 ⟨Nat.le_of_ble_eq_true rfl, Nat.le_of_ble_eq_true rfl⟩ rfl (Nat.le_of_ble_eq_true rfl) ⟨Nat.le_of_ble_eq_true rfl, Nat.le_of_ble_eq_true rfl⟩ rfl dX10_exact_56) h (fun f41 H locs p42 h => ?_)
          have n43 : (1 : Int32).toInt = 1 := rfl
          have n44 : (0 : Int32).toInt = 0 := rfl
          obtain ⟨tf41, ogf41, x0r40, gjf41⟩ := p42
          have of41 : Fr [20, 21, 22, 23, 24, 25, 20001, 20002, 20007, 20008, 20009, 20010, 20011, 22001, 22002, 22003, 22004, 23001, 23002, 23003, 23004] τ f f41 := Fr.tr o ogf41 (by decide) (by decide)
          have k45 := atp.fr kq2 ogf41 hu0 (by decide)
          have k46 := atp.fr kwP56 ogf41 tq7 (by decide)
          have k47 := atp.fr krP56 ogf41 twP56 (by decide)
          have k48 := atp.fr kxP56 ogf41 tq7 (by decide)
          have k49 := atp.fr kyP56 ogf41 tq7 (by decide)
          refine lv_aload_n hx hb dX10_exact_59 rfl (lv_at hl 1 rfl) ?_
          refine t_getfd C h tf41 hu0 (by decide) wf_10 (v := .ref gq) k45 fl_X10_26 dX10_exact_60 ?_
          refine lv_iload_n hx hb dX10_exact_63 rfl (lv_at hl 4 rfl) ?_
          refine lv_iload hx hb dX10_exact_64 (lv_at hl 5 rfl) ?_
          obtain ⟨_, r50⟩ := t_rec tf41 hgq (by decide) wf_20
          refine k_l (r_V C h hl (As := [.int u3, .int u4]) (rest := []) (s_X2_seen l D G b0 τ f41 tf41 gq hgq u3 (iv_w i25 (by decide)) u4 (iv_w i26 (by decide)) rq mq gjf41) r50 (Cn := RX2) (T := TX2) (N := 11) rfl rfl mk_X2_seen w_709 w_710 w_711 w_712 ⟨Nat.le_of_ble_eq_true rfl, Nat.le_of_ble_eq_true rfl⟩ rfl (Nat.le_of_ble_eq_true rfl) ⟨Nat.le_of_ble_eq_true rfl, Nat.le_of_ble_eq_true rfl⟩ rfl dX10_exact_66) h (fun r51 f52 H locs p53 h => ?_)
          obtain ⟨tf52, ogf52⟩ := p53
          have egf52 := Fr.nil2 ogf52
          subst egf52
          exact u_lret C h hr hQ (⟨tf41, of41, gjf41⟩) (Nat.le_of_ble_eq_true rfl) (Nat.le_of_ble_eq_true rfl) dX10_exact_69
        · have c37 : r31.toInt = 0 := congrArg Int32.toInt c34
          have i38 : iv r31 0 0 := iv_Q c37 ir31 (iv_k (x := 0) (k := 0) rfl) (by decide)
          refine lv_ldc2 (v := -1) hx hb hown (hts _ w_757) dX10_exact_43 ?_
          exact u_lret C h hr hQ (⟨t, o, hGJ⟩) (Nat.le_of_ble_eq_true rfl) (Nat.le_of_ble_eq_true rfl) dX10_exact_46
abbrev rm_s_X10_reflected : Room := { frames := 5, cells := 0, slots := 0, locals := 112 }
set_option maxRecDepth 100000 in
set_option maxHeartbeats 4000000 in
theorem s_X10_reflected (l : Launch) (D : va_G) (G : Nat → Nat) (b0 : Nat) (τ : Nat → Nat) (f : hM) (t : TI G 9 τ f) (u0 : Nat) (hu0 : τ u0 = 10) (u1 : Int32) (hu1 : iv u1 (-2147483648) 2147483647) (u2 : Int32) (hu2 : iv u2 (-2147483648) 2147483647) (u3 : Int32) (hu3 : iv u3 (-2147483648) 2147483647) (u4 : Int32) (hu4 : iv u4 (-2147483648) 2147483647) (gq rq mq : Nat) (hgq : τ gq = 20) (kq2 : atp f u0 (fd 2 (.ref gq))) (hGJ : GJ τ f gq rq mq) : mI l yX10_reflected cX10_reflected 10 (.int) rm_s_X10_reflected D G b0 f [.ref u0, .int u1, .int u2, .int u3, .int u4] (fun r f1 => iv r (-2147483648) 2147483647 ∧ TI G 9 τ f1 ∧ Fr [20, 21, 22, 23, 24, 25, 20001, 20002, 20007, 20008, 20009, 20010, 20011, 22001, 22002, 22003, 22004, 23001, 23002, 23003, 23004] τ f f1 ∧ GJ τ f1 gq rq mq) := by
  refine met2 (own := RX10) (by decide) rfl (Nat.le_of_ble_eq_true rfl) ?_
  intro p e s m args below meth c ls Q hQ C hr hini hl h
  have hl : lv_has ls 10 [(0, .ref u0), (1, .int u1), (2, .int u2), (3, .int u3), (4, .int u4)] := hl
  obtain ⟨hx, hb, hml, hown, hts, hE0, hlk⟩ := id C
  have o := Fr.rf [20, 21, 22, 23, 24, 25, 20001, 20002, 20007, 20008, 20009, 20010, 20011, 22001, 22002, 22003, 22004, 23001, 23002, 23003, 23004] τ f
  refine lv_aload_n hx hb dX10_reflected_0 rfl (lv_at hl 0 rfl) ?_
  refine t_getr (tq := 12) C h t hu0 (by decide) wf_10 rfl fl_X10_19 dX10_reflected_1 (fun q1 tq1 => ?_)
  refine lv_iload_n hx hb dX10_reflected_4 rfl (lv_at hl 1 rfl) ?_
  obtain ⟨_, r2⟩ := t_rec t tq1 (by decide) wf_12
  refine k_q (r_V C h hl (As := [.int u1]) (rest := []) (s_X0_find l D G b0 τ f t q1 tq1 u1 hu1) r2 (Cn := RX0) (T := TX0) (N := 6) rfl rfl mk_X0_find w_594 w_595 w_596 w_597 ⟨Nat.le_of_ble_eq_true rfl, Nat.le_of_ble_eq_true rfl⟩ rfl (Nat.le_of_ble_eq_true rfl) ⟨Nat.le_of_ble_eq_true rfl, Nat.le_of_ble_eq_true rfl⟩ rfl dX10_reflected_5) h (fun r3 f4 H locs p5 h => ?_)
  obtain ⟨qr3, tf4, ogf4⟩ := p5
  have egf4 := Fr.nil2 ogf4
  subst egf4
  have tr3 := qr3
  refine lv_astoreO (lv' := [(5, va_rf r3), (0, .ref u0), (1, .int u1), (2, .int u2), (3, .int u3), (4, .int u4)]) hx hb dX10_reflected_8 hl (by decide) rfl (fun ls hl => ?_)
  refine lv_aloadO hx hb dX10_reflected_10 (lv_at hl 0 rfl) ?_
  rcases va_rfc r3 with eq7 | ⟨q7, eq7⟩
  · subst eq7
    have hl : lv_has ls 10 [(5, .null), (0, .ref u0), (1, .int u1), (2, .int u2), (3, .int u3), (4, .int u4)] := hl
    show W _ _ _ _ _ _ _ _ _ _ _ _ _ _ _ (F0 m 12 ls [.null])
    refine lv_ifnullN (tgt := 43) hx hb dX10_reflected_12 (by decide) ?_
    refine lv_ldc (v := -1000000) hx hb hown (hts _ w_772) dX10_reflected_43 ?_
    exact u_iret C h hr hQ (⟨⟨by decide, by decide⟩, t, o, hGJ⟩) (Nat.le_of_ble_eq_true rfl) (Nat.le_of_ble_eq_true rfl) dX10_reflected_45
  · subst eq7
    have tq7 : τ q7 = 1 := tr3 _ rfl
    have hl : lv_has ls 10 [(5, .ref q7), (0, .ref u0), (1, .int u1), (2, .int u2), (3, .int u3), (4, .int u4)] := hl
    show W _ _ _ _ _ _ _ _ _ _ _ _ _ _ _ (F0 m 12 ls [.ref q7])
    refine lv_ifnull hx hb dX10_reflected_12 ?_
    refine lv_iload_n hx hb dX10_reflected_15 rfl (lv_at hl 3 rfl) ?_
    refine k_i (r_S C h hl (As := [.int u2]) (rest := []) (s_X10_isLength l D G b0 τ f t u2 hu2) mk_X10_isLength w_653 w_654 w_655 ⟨Nat.le_of_ble_eq_true rfl, Nat.le_of_ble_eq_true rfl⟩ rfl (Nat.le_of_ble_eq_true rfl) ⟨Nat.le_of_ble_eq_true rfl, Nat.le_of_ble_eq_true rfl⟩ rfl dX10_reflected_16) h (fun r8 f9 H locs p10 h => ?_)
    obtain ⟨ir8, tf9, ogf9, cnr8⟩ := p10
    have egf9 := Fr.nil2 ogf9
    subst egf9
    refine lv_if_eq (tgt := 43) hx hb dX10_reflected_19 (by decide) (fun c11 => ?_) (fun c11 => ?_)
    · have c12 : r8.toInt = 0 := congrArg Int32.toInt c11
      have i13 : iv r8 0 0 := iv_Q c12 ir8 (iv_k (x := 0) (k := 0) rfl) (by decide)
      refine lv_ldc (v := -1000000) hx hb hown (hts _ w_772) dX10_reflected_43 ?_
      exact u_iret C h hr hQ (⟨⟨by decide, by decide⟩, t, o, hGJ⟩) (Nat.le_of_ble_eq_true rfl) (Nat.le_of_ble_eq_true rfl) dX10_reflected_45
    · have c14 : r8.toInt ≠ 0 := fun z_ => c11 (Int32.toInt_inj.mp z_)
      have i15 : iv r8 1 1 := iv_Nl c14 ir8 (by decide)
      have i16 := cnr8 c14
      refine lv_iload_n hx hb dX10_reflected_22 rfl (lv_at hl 4 rfl) ?_
      refine lv_iconst (v := 0) hx hb dX10_reflected_23 (by decide) ?_
      refine lv_bipush (v := 60) hx hb dX10_reflected_24 (by decide) ?_
      refine k_i (r_S C h hl (As := [.int u3, .int 0, .int 60]) (rest := []) (s_X10_within l D G b0 τ f t u3 hu3 0 (iv_w (iv_k (x := 0) (k := 0) rfl) (by decide)) 60 (iv_w (iv_k (x := 60) (k := 60) rfl) (by decide))) mk_X10_within w_425 w_426 w_427 ⟨Nat.le_of_ble_eq_true rfl, Nat.le_of_ble_eq_true rfl⟩ rfl (Nat.le_of_ble_eq_true rfl) ⟨Nat.le_of_ble_eq_true rfl, Nat.le_of_ble_eq_true rfl⟩ rfl dX10_reflected_26) h (fun r17 f18 H locs p19 h => ?_)
      have n20 : (0 : Int32).toInt = 0 := rfl
      have n21 : (60 : Int32).toInt = 60 := rfl
      obtain ⟨ir17, tf18, ogf18, cnr17, czr17⟩ := p19
      have egf18 := Fr.nil2 ogf18
      subst egf18
      refine lv_if_eq (tgt := 43) hx hb dX10_reflected_29 (by decide) (fun c22 => ?_) (fun c22 => ?_)
      · have c23 : r17.toInt = 0 := congrArg Int32.toInt c22
        have i24 : iv r17 0 0 := iv_Q c23 ir17 (iv_k (x := 0) (k := 0) rfl) (by decide)
        have i25 := czr17 c23
        refine lv_ldc (v := -1000000) hx hb hown (hts _ w_772) dX10_reflected_43 ?_
        exact u_iret C h hr hQ (⟨⟨by decide, by decide⟩, t, o, hGJ⟩) (Nat.le_of_ble_eq_true rfl) (Nat.le_of_ble_eq_true rfl) dX10_reflected_45
      · have c26 : r17.toInt ≠ 0 := fun z_ => c22 (Int32.toInt_inj.mp z_)
        have i27 : iv r17 1 1 := iv_Nl c26 ir17 (by decide)
        obtain ⟨i28, i29⟩ := cnr17 c26
        have i30 : iv u3 0 60 := ⟨by omega, by omega⟩
        refine lv_iload hx hb dX10_reflected_32 (lv_at hl 5 rfl) ?_
        refine lv_iconst (v := 0) hx hb dX10_reflected_34 (by decide) ?_
        refine lv_bipush (v := 60) hx hb dX10_reflected_35 (by decide) ?_
        refine k_i (r_S C h hl (As := [.int u4, .int 0, .int 60]) (rest := []) (s_X10_within l D G b0 τ f t u4 hu4 0 (iv_w (iv_k (x := 0) (k := 0) rfl) (by decide)) 60 (iv_w (iv_k (x := 60) (k := 60) rfl) (by decide))) mk_X10_within w_425 w_426 w_427 ⟨Nat.le_of_ble_eq_true rfl, Nat.le_of_ble_eq_true rfl⟩ rfl (Nat.le_of_ble_eq_true rfl) ⟨Nat.le_of_ble_eq_true rfl, Nat.le_of_ble_eq_true rfl⟩ rfl dX10_reflected_37) h (fun r31 f32 H locs p33 h => ?_)
        have n34 : (0 : Int32).toInt = 0 := rfl
        have n35 : (60 : Int32).toInt = 60 := rfl
        obtain ⟨ir31, tf32, ogf32, cnr31, czr31⟩ := p33
        have egf32 := Fr.nil2 ogf32
        subst egf32
        refine lv_if_ne (tgt := 46) hx hb dX10_reflected_40 (by decide) (fun c36 => ?_) (fun c36 => ?_)
        · have c37 : r31.toInt ≠ 0 := fun z_ => c36 (Int32.toInt_inj.mp z_)
          have i38 : iv r31 1 1 := iv_Nl c37 ir31 (by decide)
          obtain ⟨i39, i40⟩ := cnr31 c37
          have i41 : iv u4 0 60 := ⟨by omega, by omega⟩
          refine lv_aload hx hb dX10_reflected_46 (lv_at hl 0 rfl) ?_
          refine st_get C h (i := 4) (by decide) w_773 dX10_reflected_48 ?_
          obtain ⟨_, r45⟩ := t_rec t tq7 (by decide) wf_1
          refine k_i (r_V C h hl (As := [.ref (G (60 + 4))]) (rest := []) (s_X6_isSameByd4 l D G b0 τ f t q7 tq7) r45 (Cn := RX6) (T := TX6) (N := 4) rfl rfl mk_X6_isSameBy w_775 w_776 w_777 w_778 ⟨Nat.le_of_ble_eq_true rfl, Nat.le_of_ble_eq_true rfl⟩ rfl (Nat.le_of_ble_eq_true rfl) ⟨Nat.le_of_ble_eq_true rfl, Nat.le_of_ble_eq_true rfl⟩ rfl dX10_reflected_51) h (fun r46 f47 H locs p48 h => ?_)
          obtain ⟨ir46, tf47, ogf47⟩ := p48
          have egf47 := Fr.nil2 ogf47
          subst egf47
          refine lv_if_eq (tgt := 68) hx hb dX10_reflected_54 (by decide) (fun c49 => ?_) (fun c49 => ?_)
          · have c50 : r46.toInt = 0 := congrArg Int32.toInt c49
            have i51 : iv r46 0 0 := iv_Q c50 ir46 (iv_k (x := 0) (k := 0) rfl) (by decide)
            refine lv_ldc (v := -1000000) hx hb hown (hts _ w_772) dX10_reflected_68 ?_
            exact u_iret C h hr hQ (⟨⟨by decide, by decide⟩, t, o, hGJ⟩) (Nat.le_of_ble_eq_true rfl) (Nat.le_of_ble_eq_true rfl) dX10_reflected_70
          · have c52 : r46.toInt ≠ 0 := fun z_ => c49 (Int32.toInt_inj.mp z_)
            have i53 : iv r46 1 1 := iv_Nl c52 ir46 (by decide)
            refine lv_aload hx hb dX10_reflected_57 (lv_at hl 0 rfl) ?_
            refine st_get C h (i := 5) (by decide) w_779 dX10_reflected_59 ?_
            obtain ⟨_, r54⟩ := t_rec t tq7 (by decide) wf_1
            refine k_i (r_V C h hl (As := [.ref (G (60 + 5))]) (rest := []) (s_X6_isSameByd5 l D G b0 τ f t q7 tq7) r54 (Cn := RX6) (T := TX6) (N := 4) rfl rfl mk_X6_isSameBy w_775 w_776 w_777 w_778 ⟨Nat.le_of_ble_eq_true rfl, Nat.le_of_ble_eq_true rfl⟩ rfl (Nat.le_of_ble_eq_true rfl) ⟨Nat.le_of_ble_eq_true rfl, Nat.le_of_ble_eq_true rfl⟩ rfl dX10_reflected_62) h (fun r55 f56 H locs p57 h => ?_)
            obtain ⟨ir55, tf56, ogf56⟩ := p57
            have egf56 := Fr.nil2 ogf56
            subst egf56
            refine lv_if_ne (tgt := 71) hx hb dX10_reflected_65 (by decide) (fun c58 => ?_) (fun c58 => ?_)
            · have c59 : r55.toInt ≠ 0 := fun z_ => c58 (Int32.toInt_inj.mp z_)
              have i60 : iv r55 1 1 := iv_Nl c59 ir55 (by decide)
              refine lv_aload_n hx hb dX10_reflected_71 rfl (lv_at hl 1 rfl) ?_
              refine t_getfd C h t hu0 (by decide) wf_10 (v := .ref gq) kq2 fl_X10_26 dX10_reflected_72 ?_
              refine lv_aload hx hb dX10_reflected_75 (lv_at hl 0 rfl) ?_
              refine lv_iconst (v := 0) hx hb dX10_reflected_77 (by decide) ?_
              refine lv_iconst (v := 2) hx hb dX10_reflected_78 (by decide) ?_
              refine lv_iload_n hx hb dX10_reflected_79 rfl (lv_at hl 3 rfl) ?_
              obtain ⟨wqP80, twP80, kwP80⟩ := t_fref (tq := 2) (k := 0) t tq7 (by decide) wf_1 rfl
              obtain ⟨sxP80, isxP80, kxP80⟩ := t_fint (k := 1) t tq7 (by decide) wf_1 rfl
              obtain ⟨syP80, isyP80, kyP80⟩ := t_fint (k := 2) t tq7 (by decide) wf_1 rfl
              obtain ⟨wwP80, krP80, hwP80⟩ := ia_get t twP80 (by decide) wf_2
              obtain ⟨_, r63⟩ := t_rec t hgq (by decide) wf_20
              refine k_v (r_V C h hl (As := [.ref q7, .int 0, .int 2, .int u2]) (rest := []) (s_X2_go l D G b0 τ f t gq hgq q7 tq7 0 (iv_w (iv_k (x := 0) (k := 0) rfl) (by decide)) 2 (iv_w (iv_k (x := 2) (k := 2) rfl) (by decide)) u2 i16 wqP80 twP80 kwP80 sxP80 isxP80 kxP80 syP80 isyP80 kyP80 rq mq hGJ wwP80 krP80 (row10 wwP80 sxP80 syP80) 0 (row10_in hwP80)) r63 (Cn := RX2) (T := TX2) (N := 11) rfl rfl mk_X2_go w_659 w_660 w_661 w_662 ⟨Nat.le_of_ble_eq_true rfl, Nat.le_of_ble_eq_true rfl⟩ rfl (Nat.le_of_ble_eq_true rfl) ⟨Nat.le_of_ble_eq_true rfl, Nat.le_of_ble_eq_true rfl⟩ rfl dX10_reflected_80) h (fun f65 H locs p66 h => ?_)
              have n67 : (0 : Int32).toInt = 0 := rfl
              have n68 : (2 : Int32).toInt = 2 := rfl
              obtain ⟨tf65, ogf65, x0r64, gjf65⟩ := p66
              have of65 : Fr [20, 21, 22, 23, 24, 25, 20001, 20002, 20007, 20008, 20009, 20010, 20011, 22001, 22002, 22003, 22004, 23001, 23002, 23003, 23004] τ f f65 := Fr.tr o ogf65 (by decide) (by decide)
              have k69 := atp.fr kq2 ogf65 hu0 (by decide)
              have k70 := atp.fr kwP80 ogf65 tq7 (by decide)
              have k71 := atp.fr krP80 ogf65 twP80 (by decide)
              have k72 := atp.fr kxP80 ogf65 tq7 (by decide)
              have k73 := atp.fr kyP80 ogf65 tq7 (by decide)
              refine lv_aload_n hx hb dX10_reflected_83 rfl (lv_at hl 1 rfl) ?_
              refine t_getfd C h tf65 hu0 (by decide) wf_10 (v := .ref gq) k69 fl_X10_26 dX10_reflected_84 ?_
              refine lv_iload_n hx hb dX10_reflected_87 rfl (lv_at hl 4 rfl) ?_
              refine lv_iload hx hb dX10_reflected_88 (lv_at hl 5 rfl) ?_
              obtain ⟨_, r74⟩ := t_rec tf65 hgq (by decide) wf_20
              refine k_l (r_V C h hl (As := [.int u3, .int u4]) (rest := []) (s_X2_seen l D G b0 τ f65 tf65 gq hgq u3 (iv_w i30 (by decide)) u4 (iv_w i41 (by decide)) rq mq gjf65) r74 (Cn := RX2) (T := TX2) (N := 11) rfl rfl mk_X2_seen w_709 w_710 w_711 w_712 ⟨Nat.le_of_ble_eq_true rfl, Nat.le_of_ble_eq_true rfl⟩ rfl (Nat.le_of_ble_eq_true rfl) ⟨Nat.le_of_ble_eq_true rfl, Nat.le_of_ble_eq_true rfl⟩ rfl dX10_reflected_90) h (fun r75 f76 H locs p77 h => ?_)
              obtain ⟨tf76, ogf76⟩ := p77
              have egf76 := Fr.nil2 ogf76
              subst egf76
              refine lv_aload_n hx hb dX10_reflected_93 rfl (lv_at hl 1 rfl) ?_
              refine t_getfd C h tf65 hu0 (by decide) wf_10 (v := .ref gq) k69 fl_X10_26 dX10_reflected_94 ?_
              refine lv_iload_n hx hb dX10_reflected_97 rfl (lv_at hl 4 rfl) ?_
              refine lv_ineg hx hb dX10_reflected_98 (i_topm (P := fun q_ => q_ = -Int32.toInt u3) (iv_negm i30 (by decide)) (fun z78 ez78 mz78 iz78 => ?_))
              refine lv_iconst (v := 2) hx hb dX10_reflected_99 (by decide) ?_
              refine i_subk hx hb dX10_reflected_100 iz78 (k := 2) rfl (lo := (-62)) (hi := (-2)) (by decide) (fun z79 ez79 mz79 iz79 => ?_)
              refine lv_iload hx hb dX10_reflected_101 (lv_at hl 5 rfl) ?_
              refine lv_ineg hx hb dX10_reflected_103 (i_topm (P := fun q_ => q_ = -Int32.toInt u4) (iv_negm i41 (by decide)) (fun z80 ez80 mz80 iz80 => ?_))
              refine lv_iconst (v := 2) hx hb dX10_reflected_104 (by decide) ?_
              refine i_subk hx hb dX10_reflected_105 iz80 (k := 2) rfl (lo := (-62)) (hi := (-2)) (by decide) (fun z81 ez81 mz81 iz81 => ?_)
              obtain ⟨_, r82⟩ := t_rec tf65 hgq (by decide) wf_20
              refine k_l (r_V C h hl (As := [.int z79, .int z81]) (rest := [.long r75]) (s_X2_seen l D G b0 τ f65 tf65 gq hgq z79 (iv_w iz79 (by decide)) z81 (iv_w iz81 (by decide)) rq mq gjf65) r82 (Cn := RX2) (T := TX2) (N := 11) rfl rfl mk_X2_seen w_709 w_710 w_711 w_712 ⟨Nat.le_of_ble_eq_true rfl, Nat.le_of_ble_eq_true rfl⟩ rfl (Nat.le_of_ble_eq_true rfl) ⟨Nat.le_of_ble_eq_true rfl, Nat.le_of_ble_eq_true rfl⟩ rfl dX10_reflected_106) h (fun r83 f84 H locs p85 h => ?_)
              obtain ⟨tf84, ogf84⟩ := p85
              have egf84 := Fr.nil2 ogf84
              subst egf84
              refine lv_ladd hx hb dX10_reflected_109 (lv_topl (fun w86 ew86 => ?_))
              refine lv_lstore (lv' := [(6, .long w86), (5, .ref q7), (0, .ref u0), (1, .int u1), (2, .int u2), (3, .int u3), (4, .int u4)]) hx hb dX10_reflected_110 hl (by decide) rfl (fun ls hl => ?_)
              refine lv_aload_n hx hb dX10_reflected_112 rfl (lv_at hl 2 rfl) ?_
              refine t_getfd C h tf65 hu0 (by decide) wf_10 (v := .ref gq) k69 fl_X10_26 dX10_reflected_113 ?_
              refine lv_iload_n hx hb dX10_reflected_116 rfl (lv_at hl 5 rfl) ?_
              refine lv_ineg hx hb dX10_reflected_117 (i_topm (P := fun q_ => q_ = -Int32.toInt u3) (iv_negm i30 (by decide)) (fun z87 ez87 mz87 iz87 => ?_))
              refine lv_iconst (v := 2) hx hb dX10_reflected_118 (by decide) ?_
              refine i_subk hx hb dX10_reflected_119 iz87 (k := 2) rfl (lo := (-62)) (hi := (-2)) (by decide) (fun z88 ez88 mz88 iz88 => ?_)
              refine lv_iload hx hb dX10_reflected_120 (lv_at hl 6 rfl) ?_
              obtain ⟨_, r89⟩ := t_rec tf65 hgq (by decide) wf_20
              refine k_l (r_V C h hl (As := [.int z88, .int u4]) (rest := []) (s_X2_seen l D G b0 τ f65 tf65 gq hgq z88 (iv_w iz88 (by decide)) u4 (iv_w i41 (by decide)) rq mq gjf65) r89 (Cn := RX2) (T := TX2) (N := 11) rfl rfl mk_X2_seen w_709 w_710 w_711 w_712 ⟨Nat.le_of_ble_eq_true rfl, Nat.le_of_ble_eq_true rfl⟩ rfl (Nat.le_of_ble_eq_true rfl) ⟨Nat.le_of_ble_eq_true rfl, Nat.le_of_ble_eq_true rfl⟩ rfl dX10_reflected_122) h (fun r90 f91 H locs p92 h => ?_)
              obtain ⟨tf91, ogf91⟩ := p92
              have egf91 := Fr.nil2 ogf91
              subst egf91
              refine lv_aload_n hx hb dX10_reflected_125 rfl (lv_at hl 2 rfl) ?_
              refine t_getfd C h tf65 hu0 (by decide) wf_10 (v := .ref gq) k69 fl_X10_26 dX10_reflected_126 ?_
              refine lv_iload_n hx hb dX10_reflected_129 rfl (lv_at hl 5 rfl) ?_
              refine lv_iload hx hb dX10_reflected_130 (lv_at hl 6 rfl) ?_
              refine lv_ineg hx hb dX10_reflected_132 (i_topm (P := fun q_ => q_ = -Int32.toInt u4) (iv_negm i41 (by decide)) (fun z93 ez93 mz93 iz93 => ?_))
              refine lv_iconst (v := 2) hx hb dX10_reflected_133 (by decide) ?_
              refine i_subk hx hb dX10_reflected_134 iz93 (k := 2) rfl (lo := (-62)) (hi := (-2)) (by decide) (fun z94 ez94 mz94 iz94 => ?_)
              obtain ⟨_, r95⟩ := t_rec tf65 hgq (by decide) wf_20
              refine k_l (r_V C h hl (As := [.int u3, .int z94]) (rest := [.long r90]) (s_X2_seen l D G b0 τ f65 tf65 gq hgq u3 (iv_w i30 (by decide)) z94 (iv_w iz94 (by decide)) rq mq gjf65) r95 (Cn := RX2) (T := TX2) (N := 11) rfl rfl mk_X2_seen w_709 w_710 w_711 w_712 ⟨Nat.le_of_ble_eq_true rfl, Nat.le_of_ble_eq_true rfl⟩ rfl (Nat.le_of_ble_eq_true rfl) ⟨Nat.le_of_ble_eq_true rfl, Nat.le_of_ble_eq_true rfl⟩ rfl dX10_reflected_135) h (fun r96 f97 H locs p98 h => ?_)
              obtain ⟨tf97, ogf97⟩ := p98
              have egf97 := Fr.nil2 ogf97
              subst egf97
              refine lv_ladd hx hb dX10_reflected_138 (lv_topl (fun w99 ew99 => ?_))
              refine lv_lstore (lv' := [(8, .long w99), (6, .long w86), (5, .ref q7), (0, .ref u0), (1, .int u1), (2, .int u2), (3, .int u3), (4, .int u4)]) hx hb dX10_reflected_139 hl (by decide) rfl (fun ls hl => ?_)
              refine lv_lload hx hb dX10_reflected_141 (lv_at hl 1 rfl) ?_
              refine lv_lload hx hb dX10_reflected_143 (lv_at hl 0 rfl) ?_
              refine lv_lsub hx hb dX10_reflected_145 (lv_topl (fun w100 ew100 => ?_))
              refine k_i (r_S C h hl (As := [.long w100]) (rest := []) (s_X10_residue l D G b0 τ f65 tf65 w100) mk_X10_residue w_781 w_741 w_742 ⟨Nat.le_of_ble_eq_true rfl, Nat.le_of_ble_eq_true rfl⟩ rfl (Nat.le_of_ble_eq_true rfl) ⟨Nat.le_of_ble_eq_true rfl, Nat.le_of_ble_eq_true rfl⟩ rfl dX10_reflected_146) h (fun r101 f102 H locs p103 h => ?_)
              obtain ⟨ir101, tf102, ogf102⟩ := p103
              have egf102 := Fr.nil2 ogf102
              subst egf102
              exact u_iret C h hr hQ (⟨ir101, tf65, of65, gjf65⟩) (Nat.le_of_ble_eq_true rfl) (Nat.le_of_ble_eq_true rfl) dX10_reflected_149
            · have c61 : r55.toInt = 0 := congrArg Int32.toInt c58
              have i62 : iv r55 0 0 := iv_Q c61 ir55 (iv_k (x := 0) (k := 0) rfl) (by decide)
              refine lv_ldc (v := -1000000) hx hb hown (hts _ w_772) dX10_reflected_68 ?_
              exact u_iret C h hr hQ (⟨⟨by decide, by decide⟩, t, o, hGJ⟩) (Nat.le_of_ble_eq_true rfl) (Nat.le_of_ble_eq_true rfl) dX10_reflected_70
        · have c42 : r31.toInt = 0 := congrArg Int32.toInt c36
          have i43 : iv r31 0 0 := iv_Q c42 ir31 (iv_k (x := 0) (k := 0) rfl) (by decide)
          have i44 := czr31 c42
          refine lv_ldc (v := -1000000) hx hb hown (hts _ w_772) dX10_reflected_43 ?_
          exact u_iret C h hr hQ (⟨⟨by decide, by decide⟩, t, o, hGJ⟩) (Nat.le_of_ble_eq_true rfl) (Nat.le_of_ble_eq_true rfl) dX10_reflected_45
abbrev rm_s_X10_rank : Room := { frames := 5, cells := 0, slots := 0, locals := 112 }
set_option maxRecDepth 100000 in
set_option maxHeartbeats 4000000 in
theorem s_X10_rank (l : Launch) (D : va_G) (G : Nat → Nat) (b0 : Nat) (τ : Nat → Nat) (f : hM) (t : TI G 9 τ f) (u0 : Nat) (hu0 : τ u0 = 10) (u1 : Int32) (hu1 : iv u1 (-2147483648) 2147483647) (u2 : Int32) (hu2 : iv u2 (-2147483648) 2147483647) (gq rq mq : Nat) (hgq : τ gq = 20) (kq2 : atp f u0 (fd 2 (.ref gq))) (hGJ : GJ τ f gq rq mq) : mI l yX10_rank cX10_rank 6 (.int) rm_s_X10_rank D G b0 f [.ref u0, .int u1, .int u2] (fun r f1 => iv r (-1) 28 ∧ TI G 9 τ f1 ∧ Fr [20, 21, 22, 23, 24, 25, 40, 41, 42, 20001, 20002, 20007, 20008, 20009, 20010, 20011, 22001, 22002, 22003, 22004, 23001, 23002, 23003, 23004, 40002, 40003, 40004] τ f f1 ∧ GJ τ f1 gq rq mq) := by
  refine met2 (own := RX10) (by decide) rfl (Nat.le_of_ble_eq_true rfl) ?_
  intro p e s m args below meth c ls Q hQ C hr hini hl h
  have hl : lv_has ls 6 [(0, .ref u0), (1, .int u1), (2, .int u2)] := hl
  obtain ⟨hx, hb, hml, hown, hts, hE0, hlk⟩ := id C
  have o := Fr.rf [20, 21, 22, 23, 24, 25, 40, 41, 42, 20001, 20002, 20007, 20008, 20009, 20010, 20011, 22001, 22002, 22003, 22004, 23001, 23002, 23003, 23004, 40002, 40003, 40004] τ f
  have L50 : ∀ (n50 : Nat) (ls : Array Slot) (f_50 : hM) (H : Heap) (locs : List Loc) (v50_4 : Int32), 13 - v50_4.toInt < (n50 : Int) → lv_has ls 6 [(0, .ref u0), (4, .int v50_4)] → hw D b0 s.heap f_50 H locs → TI G 9 τ f_50 → Fr [20, 21, 22, 23, 24, 25, 40, 41, 42, 20001, 20002, 20007, 20008, 20009, 20010, 20011, 22001, 22002, 22003, 22004, 23001, 23002, 23003, 23004, 40002, 40003, 40004] τ f f_50 → iv v50_4 0 13 → atp f_50 u0 (fd 2 (.ref gq)) → GJ τ f_50 gq rq mq → W p l e rm_s_X10_rank s m args below meth c H locs 0 0 Q (F0 m 50 ls []) := by
    intro n50
    induction n50 with
    | zero => intro ls f_50 H locs v50_4 hm50 hl h t_50 o_50 iv50_4 k50_u0_2 k50_gq_GJ; exact absurd hm50 (by omega)
    | succ n50 ih50 =>
      intro ls f_50 H locs v50_4 hm50 hl h t_50 o_50 iv50_4 k50_u0_2 k50_gq_GJ
      have L60 : ∀ (n60 : Nat) (ls : Array Slot) (f_60 : hM) (H : Heap) (locs : List Loc) (v60_5 : Int32), 13 - v60_5.toInt < (n60 : Int) → lv_has ls 6 [(0, .ref u0), (4, .int v50_4), (5, .int v60_5)] → hw D b0 s.heap f_60 H locs → TI G 9 τ f_60 → Fr [20, 21, 22, 23, 24, 25, 40, 41, 42, 20001, 20002, 20007, 20008, 20009, 20010, 20011, 22001, 22002, 22003, 22004, 23001, 23002, 23003, 23004, 40002, 40003, 40004] τ f f_60 → iv v50_4 0 12 → iv v60_5 0 13 → atp f_60 u0 (fd 2 (.ref gq)) → GJ τ f_60 gq rq mq → W p l e rm_s_X10_rank s m args below meth c H locs 0 0 Q (F0 m 60 ls []) := by
        intro n60
        induction n60 with
        | zero => intro ls f_60 H locs v60_5 hm60 hl h t_60 o_60 jv60_4 iv60_5 k60_u0_2 k60_gq_GJ; exact absurd hm60 (by omega)
        | succ n60 ih60 =>
          intro ls f_60 H locs v60_5 hm60 hl h t_60 o_60 jv60_4 iv60_5 k60_u0_2 k60_gq_GJ
          refine lv_iload hx hb dX10_rank_60 (lv_at hl 2 rfl) ?_
          refine lv_bipush (v := 12) hx hb dX10_rank_62 (by decide) ?_
          refine lv_icmp_gt (tgt := 95) hx hb dX10_rank_64 (by decide) (fun c1 => ?_) (fun c1 => ?_)
          · have c2 : 12 < v60_5.toInt := Int32.lt_iff_toInt_lt.mp c1
            have i3 : iv v60_5 13 13 := iv_Lr c2 (iv_k (x := 12) (k := 12) rfl) iv60_5 (by decide)
            refine i_inc hx hb dX10_rank_95 hl (k := 1) rfl jv60_4 rfl (lo := 1) (hi := 13) (by decide) (by decide) (lv' := fun v => [(4, .int v), (0, .ref u0), (5, .int v60_5)]) (fun _ => rfl) (fun z6 ls ez6 mz6 iz6 hl => ?_)
            refine lv_goto (tgt := 50) hx hb dX10_rank_98 (by decide) ?_
            exact ih50 ls f_60 H locs z6 (show 13 - z6.toInt < _ by omega) (lv_cons hl 1 rfl (lv_cons hl 0 rfl (lv_nil hl))) h t_60 o_60 (iv_w iz6 (by decide)) k60_u0_2 k60_gq_GJ
          · have c4 : v60_5.toInt ≤ 12 := Int32.le_iff_toInt_le.mp (iv_nlt c1)
            have i5 : iv v60_5 0 12 := iv_El c4 iv60_5 (iv_k (x := 12) (k := 12) rfl) (by decide)
            refine lv_aload_n hx hb dX10_rank_67 rfl (lv_at hl 0 rfl) ?_
            refine t_getr (tq := 40) C h t_60 hu0 (by decide) wf_10 rfl fl_X10_47 dX10_rank_68 (fun q7 tq7 => ?_)
            refine lv_iload hx hb dX10_rank_71 (lv_at hl 1 rfl) ?_
            refine lv_iload hx hb dX10_rank_73 (lv_at hl 2 rfl) ?_
            refine lv_aload_n hx hb dX10_rank_75 rfl (lv_at hl 0 rfl) ?_
            refine t_getfd C h t_60 hu0 (by decide) wf_10 (v := .ref gq) k60_u0_2 fl_X10_26 dX10_rank_76 ?_
            refine lv_iload hx hb dX10_rank_79 (lv_at hl 1 rfl) ?_
            refine lv_iload hx hb dX10_rank_81 (lv_at hl 2 rfl) ?_
            obtain ⟨_, r8⟩ := t_rec t_60 hgq (by decide) wf_20
            refine k_l (r_V C h hl (As := [.int v50_4, .int v60_5]) (rest := [.int v60_5, .int v50_4, .ref q7]) (s_X2_seen l D G b0 τ f_60 t_60 gq hgq v50_4 (iv_w jv60_4 (by decide)) v60_5 (iv_w i5 (by decide)) rq mq k60_gq_GJ) r8 (Cn := RX2) (T := TX2) (N := 11) rfl rfl mk_X2_seen w_709 w_710 w_711 w_712 ⟨Nat.le_of_ble_eq_true rfl, Nat.le_of_ble_eq_true rfl⟩ rfl (Nat.le_of_ble_eq_true rfl) ⟨Nat.le_of_ble_eq_true rfl, Nat.le_of_ble_eq_true rfl⟩ rfl dX10_rank_83) h (fun r9 f10 H locs p11 h => ?_)
            obtain ⟨tf10, ogf10⟩ := p11
            have egf10 := Fr.nil2 ogf10
            subst egf10
            obtain ⟨_, r12⟩ := t_rec t_60 tq7 (by decide) wf_40
            refine k_v (r_V C h hl (As := [.int v50_4, .int v60_5, .long r9]) (rest := []) (s_X4_put l D G b0 τ f_60 t_60 q7 tq7 v50_4 (iv_w jv60_4 (by decide)) v60_5 (iv_w i5 (by decide)) r9) r12 (Cn := RX4) (T := TX4) (N := 4) rfl rfl mk_X4_put w_792 w_793 w_794 w_795 ⟨Nat.le_of_ble_eq_true rfl, Nat.le_of_ble_eq_true rfl⟩ rfl (Nat.le_of_ble_eq_true rfl) ⟨Nat.le_of_ble_eq_true rfl, Nat.le_of_ble_eq_true rfl⟩ rfl dX10_rank_86) h (fun f14 H locs p15 h => ?_)
            obtain ⟨tf14, ogf14⟩ := p15
            have of14 : Fr [20, 21, 22, 23, 24, 25, 40, 41, 42, 20001, 20002, 20007, 20008, 20009, 20010, 20011, 22001, 22002, 22003, 22004, 23001, 23002, 23003, 23004, 40002, 40003, 40004] τ f f14 := Fr.tr o_60 ogf14 (by decide) (by decide)
            have k16 := atp.fr k60_u0_2 ogf14 hu0 (by decide)
            have k17 := GJ.fr k60_gq_GJ ogf14 hgq (by decide)
            refine i_inc hx hb dX10_rank_89 hl (k := 2) rfl i5 rfl (lo := 1) (hi := 13) (by decide) (by decide) (lv' := fun v => [(5, .int v), (0, .ref u0), (4, .int v50_4)]) (fun _ => rfl) (fun z18 ls ez18 mz18 iz18 hl => ?_)
            refine lv_goto (tgt := 60) hx hb dX10_rank_92 (by decide) ?_
            exact ih60 ls f14 H locs z18 (show 13 - z18.toInt < _ by omega) (lv_cons hl 1 rfl (lv_cons hl 2 rfl (lv_cons hl 0 rfl (lv_nil hl)))) h tf14 of14 jv60_4 (iv_w iz18 (by decide)) k16 k17
      refine lv_iload hx hb dX10_rank_50 (lv_at hl 1 rfl) ?_
      refine lv_bipush (v := 12) hx hb dX10_rank_52 (by decide) ?_
      refine lv_icmp_gt (tgt := 101) hx hb dX10_rank_54 (by decide) (fun c19 => ?_) (fun c19 => ?_)
      · have c20 : 12 < v50_4.toInt := Int32.lt_iff_toInt_lt.mp c19
        have i21 : iv v50_4 13 13 := iv_Lr c20 (iv_k (x := 12) (k := 12) rfl) iv50_4 (by decide)
        refine lv_aload_n hx hb dX10_rank_101 rfl (lv_at hl 0 rfl) ?_
        refine t_getr (tq := 40) C h t_50 hu0 (by decide) wf_10 rfl fl_X10_47 dX10_rank_102 (fun q24 tq24 => ?_)
        obtain ⟨_, r25⟩ := t_rec t_50 tq24 (by decide) wf_40
        refine k_i (r_V C h hl (As := []) (rest := []) (s_X4_pivots l D G b0 τ f_50 t_50 q24 tq24) r25 (Cn := RX4) (T := TX4) (N := 4) rfl rfl mk_X4_pivots w_797 w_798 w_799 w_800 ⟨Nat.le_of_ble_eq_true rfl, Nat.le_of_ble_eq_true rfl⟩ rfl (Nat.le_of_ble_eq_true rfl) ⟨Nat.le_of_ble_eq_true rfl, Nat.le_of_ble_eq_true rfl⟩ rfl dX10_rank_105) h (fun r26 f27 H locs p28 h => ?_)
        obtain ⟨ir26, tf27, ogf27⟩ := p28
        have of27 : Fr [20, 21, 22, 23, 24, 25, 40, 41, 42, 20001, 20002, 20007, 20008, 20009, 20010, 20011, 22001, 22002, 22003, 22004, 23001, 23002, 23003, 23004, 40002, 40003, 40004] τ f f27 := Fr.tr o_50 ogf27 (by decide) (by decide)
        have k29 := atp.fr k50_u0_2 ogf27 hu0 (by decide)
        have k30 := GJ.fr k50_gq_GJ ogf27 hgq (by decide)
        exact u_iret C h hr hQ (⟨(iv_w ir26 (by decide)), tf27, of27, k30⟩) (Nat.le_of_ble_eq_true rfl) (Nat.le_of_ble_eq_true rfl) dX10_rank_108
      · have c22 : v50_4.toInt ≤ 12 := Int32.le_iff_toInt_le.mp (iv_nlt c19)
        have i23 : iv v50_4 0 12 := iv_El c22 iv50_4 (iv_k (x := 12) (k := 12) rfl) (by decide)
        refine lv_iconst (v := 0) hx hb dX10_rank_57 (by decide) ?_
        refine lv_istore (lv' := [(5, .int 0), (0, .ref u0), (4, .int v50_4)]) hx hb dX10_rank_58 hl (by decide) rfl (fun ls hl => ?_)
        exact L60 14 ls f_50 H locs 0 (by decide) (lv_cons hl 1 rfl (lv_cons hl 2 rfl (lv_cons hl 0 rfl (lv_nil hl)))) h t_50 o_50 i23 ⟨by decide, by decide⟩ k50_u0_2 k50_gq_GJ
  refine lv_aload_n hx hb dX10_rank_0 rfl (lv_at hl 0 rfl) ?_
  refine t_getr (tq := 12) C h t hu0 (by decide) wf_10 rfl fl_X10_19 dX10_rank_1 (fun q31 tq31 => ?_)
  refine lv_iload_n hx hb dX10_rank_4 rfl (lv_at hl 1 rfl) ?_
  obtain ⟨_, r32⟩ := t_rec t tq31 (by decide) wf_12
  refine k_q (r_V C h hl (As := [.int u1]) (rest := []) (s_X0_find l D G b0 τ f t q31 tq31 u1 hu1) r32 (Cn := RX0) (T := TX0) (N := 6) rfl rfl mk_X0_find w_594 w_595 w_596 w_597 ⟨Nat.le_of_ble_eq_true rfl, Nat.le_of_ble_eq_true rfl⟩ rfl (Nat.le_of_ble_eq_true rfl) ⟨Nat.le_of_ble_eq_true rfl, Nat.le_of_ble_eq_true rfl⟩ rfl dX10_rank_5) h (fun r33 f34 H locs p35 h => ?_)
  obtain ⟨qr33, tf34, ogf34⟩ := p35
  have egf34 := Fr.nil2 ogf34
  subst egf34
  have tr33 := qr33
  refine lv_astore_nO (lv' := [(3, va_rf r33), (0, .ref u0), (1, .int u1), (2, .int u2)]) hx hb dX10_rank_8 rfl hl (by decide) rfl (fun ls hl => ?_)
  refine lv_aload_nO hx hb dX10_rank_9 rfl (lv_at hl 0 rfl) ?_
  rcases va_rfc r33 with eq37 | ⟨q37, eq37⟩
  · subst eq37
    have hl : lv_has ls 6 [(3, .null), (0, .ref u0), (1, .int u1), (2, .int u2)] := hl
    show W _ _ _ _ _ _ _ _ _ _ _ _ _ _ _ (F0 m 10 ls [.null])
    refine lv_ifnullN (tgt := 23) hx hb dX10_rank_10 (by decide) ?_
    refine lv_iconst (v := -1) hx hb dX10_rank_23 (by decide) ?_
    exact u_iret C h hr hQ (⟨⟨by decide, by decide⟩, t, o, hGJ⟩) (Nat.le_of_ble_eq_true rfl) (Nat.le_of_ble_eq_true rfl) dX10_rank_24
  · subst eq37
    have tq37 : τ q37 = 1 := tr33 _ rfl
    have hl : lv_has ls 6 [(3, .ref q37), (0, .ref u0), (1, .int u1), (2, .int u2)] := hl
    show W _ _ _ _ _ _ _ _ _ _ _ _ _ _ _ (F0 m 10 ls [.ref q37])
    refine lv_ifnull hx hb dX10_rank_10 ?_
    refine lv_iload_n hx hb dX10_rank_13 rfl (lv_at hl 3 rfl) ?_
    refine lv_iconst (v := 0) hx hb dX10_rank_14 (by decide) ?_
    refine lv_bipush (v := 12) hx hb dX10_rank_15 (by decide) ?_
    refine k_i (r_S C h hl (As := [.int u2, .int 0, .int 12]) (rest := []) (s_X10_within l D G b0 τ f t u2 hu2 0 (iv_w (iv_k (x := 0) (k := 0) rfl) (by decide)) 12 (iv_w (iv_k (x := 12) (k := 12) rfl) (by decide))) mk_X10_within w_425 w_426 w_427 ⟨Nat.le_of_ble_eq_true rfl, Nat.le_of_ble_eq_true rfl⟩ rfl (Nat.le_of_ble_eq_true rfl) ⟨Nat.le_of_ble_eq_true rfl, Nat.le_of_ble_eq_true rfl⟩ rfl dX10_rank_17) h (fun r38 f39 H locs p40 h => ?_)
    have n41 : (0 : Int32).toInt = 0 := rfl
    have n42 : (12 : Int32).toInt = 12 := rfl
    obtain ⟨ir38, tf39, ogf39, cnr38, czr38⟩ := p40
    have egf39 := Fr.nil2 ogf39
    subst egf39
    refine lv_if_ne (tgt := 25) hx hb dX10_rank_20 (by decide) (fun c43 => ?_) (fun c43 => ?_)
    · have c44 : r38.toInt ≠ 0 := fun z_ => c43 (Int32.toInt_inj.mp z_)
      have i45 : iv r38 1 1 := iv_Nl c44 ir38 (by decide)
      obtain ⟨i46, i47⟩ := cnr38 c44
      have i48 : iv u2 0 12 := ⟨by omega, by omega⟩
      refine lv_aload_n hx hb dX10_rank_25 rfl (lv_at hl 1 rfl) ?_
      refine t_getfd C h t hu0 (by decide) wf_10 (v := .ref gq) kq2 fl_X10_26 dX10_rank_26 ?_
      refine lv_aload_n hx hb dX10_rank_29 rfl (lv_at hl 0 rfl) ?_
      refine lv_iconst (v := 0) hx hb dX10_rank_30 (by decide) ?_
      refine lv_iconst (v := 0) hx hb dX10_rank_31 (by decide) ?_
      refine lv_iload_n hx hb dX10_rank_32 rfl (lv_at hl 3 rfl) ?_
      obtain ⟨wqP33, twP33, kwP33⟩ := t_fref (tq := 2) (k := 0) t tq37 (by decide) wf_1 rfl
      obtain ⟨sxP33, isxP33, kxP33⟩ := t_fint (k := 1) t tq37 (by decide) wf_1 rfl
      obtain ⟨syP33, isyP33, kyP33⟩ := t_fint (k := 2) t tq37 (by decide) wf_1 rfl
      obtain ⟨wwP33, krP33, hwP33⟩ := ia_get t twP33 (by decide) wf_2
      obtain ⟨_, r52⟩ := t_rec t hgq (by decide) wf_20
      refine k_v (r_V C h hl (As := [.ref q37, .int 0, .int 0, .int u2]) (rest := []) (s_X2_go l D G b0 τ f t gq hgq q37 tq37 0 (iv_w (iv_k (x := 0) (k := 0) rfl) (by decide)) 0 (iv_w (iv_k (x := 0) (k := 0) rfl) (by decide)) u2 (iv_w i48 (by decide)) wqP33 twP33 kwP33 sxP33 isxP33 kxP33 syP33 isyP33 kyP33 rq mq hGJ wwP33 krP33 (row10 wwP33 sxP33 syP33) 0 (row10_in hwP33)) r52 (Cn := RX2) (T := TX2) (N := 11) rfl rfl mk_X2_go w_659 w_660 w_661 w_662 ⟨Nat.le_of_ble_eq_true rfl, Nat.le_of_ble_eq_true rfl⟩ rfl (Nat.le_of_ble_eq_true rfl) ⟨Nat.le_of_ble_eq_true rfl, Nat.le_of_ble_eq_true rfl⟩ rfl dX10_rank_33) h (fun f54 H locs p55 h => ?_)
      have n56 : (0 : Int32).toInt = 0 := rfl
      have n57 : (0 : Int32).toInt = 0 := rfl
      obtain ⟨tf54, ogf54, x0r53, gjf54⟩ := p55
      have of54 : Fr [20, 21, 22, 23, 24, 25, 40, 41, 42, 20001, 20002, 20007, 20008, 20009, 20010, 20011, 22001, 22002, 22003, 22004, 23001, 23002, 23003, 23004, 40002, 40003, 40004] τ f f54 := Fr.tr o ogf54 (by decide) (by decide)
      have k58 := atp.fr kq2 ogf54 hu0 (by decide)
      have k59 := atp.fr kwP33 ogf54 tq37 (by decide)
      have k60 := atp.fr krP33 ogf54 twP33 (by decide)
      have k61 := atp.fr kxP33 ogf54 tq37 (by decide)
      have k62 := atp.fr kyP33 ogf54 tq37 (by decide)
      refine lv_aload_n hx hb dX10_rank_36 rfl (lv_at hl 1 rfl) ?_
      refine t_getr (tq := 40) C h tf54 hu0 (by decide) wf_10 rfl fl_X10_47 dX10_rank_37 (fun q63 tq63 => ?_)
      refine lv_bipush (v := 13) hx hb dX10_rank_40 (by decide) ?_
      refine lv_bipush (v := 13) hx hb dX10_rank_42 (by decide) ?_
      obtain ⟨_, r64⟩ := t_rec tf54 tq63 (by decide) wf_40
      refine k_v (r_V C h hl (As := [.int 13, .int 13]) (rest := []) (s_X4_shape l D G b0 τ f54 tf54 q63 tq63 13 (iv_w (iv_k (x := 13) (k := 13) rfl) (by decide)) 13 (iv_w (iv_k (x := 13) (k := 13) rfl) (by decide))) r64 (Cn := RX4) (T := TX4) (N := 4) rfl rfl mk_X4_shape w_786 w_787 w_788 w_789 ⟨Nat.le_of_ble_eq_true rfl, Nat.le_of_ble_eq_true rfl⟩ rfl (Nat.le_of_ble_eq_true rfl) ⟨Nat.le_of_ble_eq_true rfl, Nat.le_of_ble_eq_true rfl⟩ rfl dX10_rank_44) h (fun f66 H locs p67 h => ?_)
      obtain ⟨tf66, ogf66⟩ := p67
      have of66 : Fr [20, 21, 22, 23, 24, 25, 40, 41, 42, 20001, 20002, 20007, 20008, 20009, 20010, 20011, 22001, 22002, 22003, 22004, 23001, 23002, 23003, 23004, 40002, 40003, 40004] τ f f66 := Fr.tr of54 ogf66 (by decide) (by decide)
      have k68 := atp.fr k58 ogf66 hu0 (by decide)
      have k69 := atp.fr k59 ogf66 tq37 (by decide)
      have k70 := atp.fr k60 ogf66 twP33 (by decide)
      have k71 := atp.fr k61 ogf66 tq37 (by decide)
      have k72 := atp.fr k62 ogf66 tq37 (by decide)
      have k73 := GJ.fr gjf54 ogf66 hgq (by decide)
      have k74 := GS.fr x0r53 ogf66 (by decide)
      refine lv_iconst (v := 0) hx hb dX10_rank_47 (by decide) ?_
      refine lv_istore (lv' := [(4, .int 0), (3, .ref q37), (0, .ref u0), (1, .int u1), (2, .int u2)]) hx hb dX10_rank_48 hl (by decide) rfl (fun ls hl => ?_)
      exact L50 14 ls f66 H locs 0 (by decide) (lv_cons hl 2 rfl (lv_cons hl 0 rfl (lv_nil hl))) h tf66 of66 ⟨by decide, by decide⟩ k68 k73
    · have c49 : r38.toInt = 0 := congrArg Int32.toInt c43
      have i50 : iv r38 0 0 := iv_Q c49 ir38 (iv_k (x := 0) (k := 0) rfl) (by decide)
      have i51 := czr38 c49
      refine lv_iconst (v := -1) hx hb dX10_rank_23 (by decide) ?_
      exact u_iret C h hr hQ (⟨⟨by decide, by decide⟩, t, o, hGJ⟩) (Nat.le_of_ble_eq_true rfl) (Nat.le_of_ble_eq_true rfl) dX10_rank_24
abbrev rm_s_X10_out : Room := { frames := 5, cells := 0, slots := 0, locals := 112 }
set_option maxRecDepth 100000 in
set_option maxHeartbeats 4000000 in
theorem s_X10_out (l : Launch) (D : va_G) (G : Nat → Nat) (b0 : Nat) (τ : Nat → Nat) (f : hM) (t : TI G 9 τ f) (u0 : Nat) (hu0 : τ u0 = 10) (u1 : Int32) (hu1 : iv u1 (-2147483648) 2147483647) (u2 : Int32) (hu2 : iv u2 (-2147483648) 2147483647) (gq rq mq : Nat) (hgq : τ gq = 20) (kq2 : atp f u0 (fd 2 (.ref gq))) (hGJ : GJ τ f gq rq mq) : mI l yX10_out cX10_out 4 (.int) rm_s_X10_out D G b0 f [.ref u0, .int u1, .int u2] (fun r f1 => iv r (-2147483648) 2147483647 ∧ TI G 9 τ f1 ∧ Fr [20, 21, 22, 23, 24, 25, 20001, 20002, 20007, 20008, 20009, 20010, 20011, 22001, 22002, 22003, 22004, 23001, 23002, 23003, 23004] τ f f1 ∧ GJ τ f1 gq rq mq) := by
  refine met2 (own := RX10) (by decide) rfl (Nat.le_of_ble_eq_true rfl) ?_
  intro p e s m args below meth c ls Q hQ C hr hini hl h
  have hl : lv_has ls 4 [(0, .ref u0), (1, .int u1), (2, .int u2)] := hl
  obtain ⟨hx, hb, hml, hown, hts, hE0, hlk⟩ := id C
  have o := Fr.rf [20, 21, 22, 23, 24, 25, 20001, 20002, 20007, 20008, 20009, 20010, 20011, 22001, 22002, 22003, 22004, 23001, 23002, 23003, 23004] τ f
  refine lv_aload_n hx hb dX10_out_0 rfl (lv_at hl 0 rfl) ?_
  refine t_getr (tq := 12) C h t hu0 (by decide) wf_10 rfl fl_X10_19 dX10_out_1 (fun q1 tq1 => ?_)
  refine lv_iload_n hx hb dX10_out_4 rfl (lv_at hl 1 rfl) ?_
  obtain ⟨_, r2⟩ := t_rec t tq1 (by decide) wf_12
  refine k_q (r_V C h hl (As := [.int u1]) (rest := []) (s_X0_find l D G b0 τ f t q1 tq1 u1 hu1) r2 (Cn := RX0) (T := TX0) (N := 6) rfl rfl mk_X0_find w_594 w_595 w_596 w_597 ⟨Nat.le_of_ble_eq_true rfl, Nat.le_of_ble_eq_true rfl⟩ rfl (Nat.le_of_ble_eq_true rfl) ⟨Nat.le_of_ble_eq_true rfl, Nat.le_of_ble_eq_true rfl⟩ rfl dX10_out_5) h (fun r3 f4 H locs p5 h => ?_)
  obtain ⟨qr3, tf4, ogf4⟩ := p5
  have egf4 := Fr.nil2 ogf4
  subst egf4
  have tr3 := qr3
  refine lv_astore_nO (lv' := [(3, va_rf r3), (0, .ref u0), (1, .int u1), (2, .int u2)]) hx hb dX10_out_8 rfl hl (by decide) rfl (fun ls hl => ?_)
  refine lv_aload_nO hx hb dX10_out_9 rfl (lv_at hl 0 rfl) ?_
  rcases va_rfc r3 with eq7 | ⟨q7, eq7⟩
  · subst eq7
    have hl : lv_has ls 4 [(3, .null), (0, .ref u0), (1, .int u1), (2, .int u2)] := hl
    show W _ _ _ _ _ _ _ _ _ _ _ _ _ _ _ (F0 m 10 ls [.null])
    refine lv_ifnullN (tgt := 20) hx hb dX10_out_10 (by decide) ?_
    refine lv_iconst (v := -1) hx hb dX10_out_20 (by decide) ?_
    exact u_iret C h hr hQ (⟨⟨by decide, by decide⟩, t, o, hGJ⟩) (Nat.le_of_ble_eq_true rfl) (Nat.le_of_ble_eq_true rfl) dX10_out_21
  · subst eq7
    have tq7 : τ q7 = 1 := tr3 _ rfl
    have hl : lv_has ls 4 [(3, .ref q7), (0, .ref u0), (1, .int u1), (2, .int u2)] := hl
    show W _ _ _ _ _ _ _ _ _ _ _ _ _ _ _ (F0 m 10 ls [.ref q7])
    refine lv_ifnull hx hb dX10_out_10 ?_
    refine lv_iload_n hx hb dX10_out_13 rfl (lv_at hl 3 rfl) ?_
    refine k_i (r_S C h hl (As := [.int u2]) (rest := []) (s_X10_isLength l D G b0 τ f t u2 hu2) mk_X10_isLength w_653 w_654 w_655 ⟨Nat.le_of_ble_eq_true rfl, Nat.le_of_ble_eq_true rfl⟩ rfl (Nat.le_of_ble_eq_true rfl) ⟨Nat.le_of_ble_eq_true rfl, Nat.le_of_ble_eq_true rfl⟩ rfl dX10_out_14) h (fun r8 f9 H locs p10 h => ?_)
    obtain ⟨ir8, tf9, ogf9, cnr8⟩ := p10
    have egf9 := Fr.nil2 ogf9
    subst egf9
    refine lv_if_ne (tgt := 22) hx hb dX10_out_17 (by decide) (fun c11 => ?_) (fun c11 => ?_)
    · have c12 : r8.toInt ≠ 0 := fun z_ => c11 (Int32.toInt_inj.mp z_)
      have i13 : iv r8 1 1 := iv_Nl c12 ir8 (by decide)
      have i14 := cnr8 c12
      refine lv_aload_n hx hb dX10_out_22 rfl (lv_at hl 1 rfl) ?_
      refine t_getfd C h t hu0 (by decide) wf_10 (v := .ref gq) kq2 fl_X10_26 dX10_out_23 ?_
      refine lv_aload_n hx hb dX10_out_26 rfl (lv_at hl 0 rfl) ?_
      refine lv_iconst (v := 0) hx hb dX10_out_27 (by decide) ?_
      refine lv_iconst (v := 0) hx hb dX10_out_28 (by decide) ?_
      refine lv_iload_n hx hb dX10_out_29 rfl (lv_at hl 3 rfl) ?_
      obtain ⟨wqP30, twP30, kwP30⟩ := t_fref (tq := 2) (k := 0) t tq7 (by decide) wf_1 rfl
      obtain ⟨sxP30, isxP30, kxP30⟩ := t_fint (k := 1) t tq7 (by decide) wf_1 rfl
      obtain ⟨syP30, isyP30, kyP30⟩ := t_fint (k := 2) t tq7 (by decide) wf_1 rfl
      obtain ⟨wwP30, krP30, hwP30⟩ := ia_get t twP30 (by decide) wf_2
      obtain ⟨_, r17⟩ := t_rec t hgq (by decide) wf_20
      refine k_v (r_V C h hl (As := [.ref q7, .int 0, .int 0, .int u2]) (rest := []) (s_X2_go l D G b0 τ f t gq hgq q7 tq7 0 (iv_w (iv_k (x := 0) (k := 0) rfl) (by decide)) 0 (iv_w (iv_k (x := 0) (k := 0) rfl) (by decide)) u2 i14 wqP30 twP30 kwP30 sxP30 isxP30 kxP30 syP30 isyP30 kyP30 rq mq hGJ wwP30 krP30 (row10 wwP30 sxP30 syP30) 0 (row10_in hwP30)) r17 (Cn := RX2) (T := TX2) (N := 11) rfl rfl mk_X2_go w_659 w_660 w_661 w_662 ⟨Nat.le_of_ble_eq_true rfl, Nat.le_of_ble_eq_true rfl⟩ rfl (Nat.le_of_ble_eq_true rfl) ⟨Nat.le_of_ble_eq_true rfl, Nat.le_of_ble_eq_true rfl⟩ rfl dX10_out_30) h (fun f19 H locs p20 h => ?_)
      have n21 : (0 : Int32).toInt = 0 := rfl
      have n22 : (0 : Int32).toInt = 0 := rfl
      obtain ⟨tf19, ogf19, x0r18, gjf19⟩ := p20
      have of19 : Fr [20, 21, 22, 23, 24, 25, 20001, 20002, 20007, 20008, 20009, 20010, 20011, 22001, 22002, 22003, 22004, 23001, 23002, 23003, 23004] τ f f19 := Fr.tr o ogf19 (by decide) (by decide)
      have k23 := atp.fr kq2 ogf19 hu0 (by decide)
      have k24 := atp.fr kwP30 ogf19 tq7 (by decide)
      have k25 := atp.fr krP30 ogf19 twP30 (by decide)
      have k26 := atp.fr kxP30 ogf19 tq7 (by decide)
      have k27 := atp.fr kyP30 ogf19 tq7 (by decide)
      refine lv_aload_n hx hb dX10_out_33 rfl (lv_at hl 1 rfl) ?_
      refine t_getfd C h tf19 hu0 (by decide) wf_10 (v := .ref gq) k23 fl_X10_26 dX10_out_34 ?_
      refine lv_aload_n hx hb dX10_out_37 rfl (lv_at hl 0 rfl) ?_
      obtain ⟨_, r28⟩ := t_rec tf19 hgq (by decide) wf_20
      refine k_i (r_V C h hl (As := [.ref q7]) (rest := []) (s_X2_leaving l D G b0 τ f19 tf19 gq hgq q7 tq7 rq mq gjf19) r28 (Cn := RX2) (T := TX2) (N := 11) rfl rfl mk_X2_leaving w_839 w_840 w_841 w_842 ⟨Nat.le_of_ble_eq_true rfl, Nat.le_of_ble_eq_true rfl⟩ rfl (Nat.le_of_ble_eq_true rfl) ⟨Nat.le_of_ble_eq_true rfl, Nat.le_of_ble_eq_true rfl⟩ rfl dX10_out_38) h (fun r29 f30 H locs p31 h => ?_)
      obtain ⟨ir29, tf30, ogf30⟩ := p31
      have egf30 := Fr.nil2 ogf30
      subst egf30
      exact u_iret C h hr hQ (⟨ir29, tf19, of19, gjf19⟩) (Nat.le_of_ble_eq_true rfl) (Nat.le_of_ble_eq_true rfl) dX10_out_41
    · have c15 : r8.toInt = 0 := congrArg Int32.toInt c11
      have i16 : iv r8 0 0 := iv_Q c15 ir8 (iv_k (x := 0) (k := 0) rfl) (by decide)
      refine lv_iconst (v := -1) hx hb dX10_out_20 (by decide) ?_
      exact u_iret C h hr hQ (⟨⟨by decide, by decide⟩, t, o, hGJ⟩) (Nat.le_of_ble_eq_true rfl) (Nat.le_of_ble_eq_true rfl) dX10_out_21
abbrev rm_s_X10_value : Room := { frames := 5, cells := 0, slots := 0, locals := 112 }
set_option maxRecDepth 100000 in
set_option maxHeartbeats 4000000 in
theorem s_X10_value (l : Launch) (D : va_G) (G : Nat → Nat) (b0 : Nat) (τ : Nat → Nat) (f : hM) (t : TI G 9 τ f) (u0 : Nat) (hu0 : τ u0 = 10) (u1 : Int32) (hu1 : iv u1 (-2147483648) 2147483647) (u2 : Int32) (hu2 : iv u2 (-2147483648) 2147483647) (u3 : Int32) (hu3 : iv u3 (-2147483648) 2147483647) (u4 : Int32) (hu4 : iv u4 (-2147483648) 2147483647) (gq rq mq : Nat) (hgq : τ gq = 20) (kq2 : atp f u0 (fd 2 (.ref gq))) (hGJ : GJ τ f gq rq mq) : mI l yX10_value cX10_value 6 (.int) rm_s_X10_value D G b0 f [.ref u0, .int u1, .int u2, .int u3, .int u4] (fun r f1 => iv r (-2147483648) 2147483647 ∧ TI G 9 τ f1 ∧ Fr [20, 21, 22, 23, 24, 25, 20001, 20002, 20007, 20008, 20009, 20010, 20011, 22001, 22002, 22003, 22004, 23001, 23002, 23003, 23004] τ f f1 ∧ GJ τ f1 gq rq mq) := by
  refine met2 (own := RX10) (by decide) rfl (Nat.le_of_ble_eq_true rfl) ?_
  intro p e s m args below meth c ls Q hQ C hr hini hl h
  have hl : lv_has ls 6 [(0, .ref u0), (1, .int u1), (2, .int u2), (3, .int u3), (4, .int u4)] := hl
  obtain ⟨hx, hb, hml, hown, hts, hE0, hlk⟩ := id C
  have o := Fr.rf [20, 21, 22, 23, 24, 25, 20001, 20002, 20007, 20008, 20009, 20010, 20011, 22001, 22002, 22003, 22004, 23001, 23002, 23003, 23004] τ f
  refine lv_aload_n hx hb dX10_value_0 rfl (lv_at hl 0 rfl) ?_
  refine t_getr (tq := 12) C h t hu0 (by decide) wf_10 rfl fl_X10_19 dX10_value_1 (fun q1 tq1 => ?_)
  refine lv_iload_n hx hb dX10_value_4 rfl (lv_at hl 1 rfl) ?_
  obtain ⟨_, r2⟩ := t_rec t tq1 (by decide) wf_12
  refine k_q (r_V C h hl (As := [.int u1]) (rest := []) (s_X0_find l D G b0 τ f t q1 tq1 u1 hu1) r2 (Cn := RX0) (T := TX0) (N := 6) rfl rfl mk_X0_find w_594 w_595 w_596 w_597 ⟨Nat.le_of_ble_eq_true rfl, Nat.le_of_ble_eq_true rfl⟩ rfl (Nat.le_of_ble_eq_true rfl) ⟨Nat.le_of_ble_eq_true rfl, Nat.le_of_ble_eq_true rfl⟩ rfl dX10_value_5) h (fun r3 f4 H locs p5 h => ?_)
  obtain ⟨qr3, tf4, ogf4⟩ := p5
  have egf4 := Fr.nil2 ogf4
  subst egf4
  have tr3 := qr3
  refine lv_astoreO (lv' := [(5, va_rf r3), (0, .ref u0), (1, .int u1), (2, .int u2), (3, .int u3), (4, .int u4)]) hx hb dX10_value_8 hl (by decide) rfl (fun ls hl => ?_)
  refine lv_aloadO hx hb dX10_value_10 (lv_at hl 0 rfl) ?_
  rcases va_rfc r3 with eq7 | ⟨q7, eq7⟩
  · subst eq7
    have hl : lv_has ls 6 [(5, .null), (0, .ref u0), (1, .int u1), (2, .int u2), (3, .int u3), (4, .int u4)] := hl
    show W _ _ _ _ _ _ _ _ _ _ _ _ _ _ _ (F0 m 12 ls [.null])
    refine lv_ifnullN (tgt := 43) hx hb dX10_value_12 (by decide) ?_
    refine lv_iconst (v := -1) hx hb dX10_value_43 (by decide) ?_
    exact u_iret C h hr hQ (⟨⟨by decide, by decide⟩, t, o, hGJ⟩) (Nat.le_of_ble_eq_true rfl) (Nat.le_of_ble_eq_true rfl) dX10_value_44
  · subst eq7
    have tq7 : τ q7 = 1 := tr3 _ rfl
    have hl : lv_has ls 6 [(5, .ref q7), (0, .ref u0), (1, .int u1), (2, .int u2), (3, .int u3), (4, .int u4)] := hl
    show W _ _ _ _ _ _ _ _ _ _ _ _ _ _ _ (F0 m 12 ls [.ref q7])
    refine lv_ifnull hx hb dX10_value_12 ?_
    refine lv_iload_n hx hb dX10_value_15 rfl (lv_at hl 3 rfl) ?_
    refine k_i (r_S C h hl (As := [.int u2]) (rest := []) (s_X10_isLength l D G b0 τ f t u2 hu2) mk_X10_isLength w_653 w_654 w_655 ⟨Nat.le_of_ble_eq_true rfl, Nat.le_of_ble_eq_true rfl⟩ rfl (Nat.le_of_ble_eq_true rfl) ⟨Nat.le_of_ble_eq_true rfl, Nat.le_of_ble_eq_true rfl⟩ rfl dX10_value_16) h (fun r8 f9 H locs p10 h => ?_)
    obtain ⟨ir8, tf9, ogf9, cnr8⟩ := p10
    have egf9 := Fr.nil2 ogf9
    subst egf9
    refine lv_if_eq (tgt := 43) hx hb dX10_value_19 (by decide) (fun c11 => ?_) (fun c11 => ?_)
    · have c12 : r8.toInt = 0 := congrArg Int32.toInt c11
      have i13 : iv r8 0 0 := iv_Q c12 ir8 (iv_k (x := 0) (k := 0) rfl) (by decide)
      refine lv_iconst (v := -1) hx hb dX10_value_43 (by decide) ?_
      exact u_iret C h hr hQ (⟨⟨by decide, by decide⟩, t, o, hGJ⟩) (Nat.le_of_ble_eq_true rfl) (Nat.le_of_ble_eq_true rfl) dX10_value_44
    · have c14 : r8.toInt ≠ 0 := fun z_ => c11 (Int32.toInt_inj.mp z_)
      have i15 : iv r8 1 1 := iv_Nl c14 ir8 (by decide)
      have i16 := cnr8 c14
      refine lv_iload_n hx hb dX10_value_22 rfl (lv_at hl 4 rfl) ?_
      refine lv_iconst (v := 0) hx hb dX10_value_23 (by decide) ?_
      refine lv_ldc (v := 1000002) hx hb hown (hts _ w_855) dX10_value_24 ?_
      refine k_i (r_S C h hl (As := [.int u3, .int 0, .int 1000002]) (rest := []) (s_X10_within l D G b0 τ f t u3 hu3 0 (iv_w (iv_k (x := 0) (k := 0) rfl) (by decide)) 1000002 (iv_w (iv_k (x := 1000002) (k := 1000002) rfl) (by decide))) mk_X10_within w_425 w_426 w_427 ⟨Nat.le_of_ble_eq_true rfl, Nat.le_of_ble_eq_true rfl⟩ rfl (Nat.le_of_ble_eq_true rfl) ⟨Nat.le_of_ble_eq_true rfl, Nat.le_of_ble_eq_true rfl⟩ rfl dX10_value_26) h (fun r17 f18 H locs p19 h => ?_)
      have n20 : (0 : Int32).toInt = 0 := rfl
      have n21 : (1000002 : Int32).toInt = 1000002 := rfl
      obtain ⟨ir17, tf18, ogf18, cnr17, czr17⟩ := p19
      have egf18 := Fr.nil2 ogf18
      subst egf18
      refine lv_if_eq (tgt := 43) hx hb dX10_value_29 (by decide) (fun c22 => ?_) (fun c22 => ?_)
      · have c23 : r17.toInt = 0 := congrArg Int32.toInt c22
        have i24 : iv r17 0 0 := iv_Q c23 ir17 (iv_k (x := 0) (k := 0) rfl) (by decide)
        have i25 := czr17 c23
        refine lv_iconst (v := -1) hx hb dX10_value_43 (by decide) ?_
        exact u_iret C h hr hQ (⟨⟨by decide, by decide⟩, t, o, hGJ⟩) (Nat.le_of_ble_eq_true rfl) (Nat.le_of_ble_eq_true rfl) dX10_value_44
      · have c26 : r17.toInt ≠ 0 := fun z_ => c22 (Int32.toInt_inj.mp z_)
        have i27 : iv r17 1 1 := iv_Nl c26 ir17 (by decide)
        obtain ⟨i28, i29⟩ := cnr17 c26
        have i30 : iv u3 0 1000002 := ⟨by omega, by omega⟩
        refine lv_iload hx hb dX10_value_32 (lv_at hl 5 rfl) ?_
        refine lv_iconst (v := 0) hx hb dX10_value_34 (by decide) ?_
        refine lv_ldc (v := 1000002) hx hb hown (hts _ w_855) dX10_value_35 ?_
        refine k_i (r_S C h hl (As := [.int u4, .int 0, .int 1000002]) (rest := []) (s_X10_within l D G b0 τ f t u4 hu4 0 (iv_w (iv_k (x := 0) (k := 0) rfl) (by decide)) 1000002 (iv_w (iv_k (x := 1000002) (k := 1000002) rfl) (by decide))) mk_X10_within w_425 w_426 w_427 ⟨Nat.le_of_ble_eq_true rfl, Nat.le_of_ble_eq_true rfl⟩ rfl (Nat.le_of_ble_eq_true rfl) ⟨Nat.le_of_ble_eq_true rfl, Nat.le_of_ble_eq_true rfl⟩ rfl dX10_value_37) h (fun r31 f32 H locs p33 h => ?_)
        have n34 : (0 : Int32).toInt = 0 := rfl
        have n35 : (1000002 : Int32).toInt = 1000002 := rfl
        obtain ⟨ir31, tf32, ogf32, cnr31, czr31⟩ := p33
        have egf32 := Fr.nil2 ogf32
        subst egf32
        refine lv_if_ne (tgt := 45) hx hb dX10_value_40 (by decide) (fun c36 => ?_) (fun c36 => ?_)
        · have c37 : r31.toInt ≠ 0 := fun z_ => c36 (Int32.toInt_inj.mp z_)
          have i38 : iv r31 1 1 := iv_Nl c37 ir31 (by decide)
          obtain ⟨i39, i40⟩ := cnr31 c37
          have i41 : iv u4 0 1000002 := ⟨by omega, by omega⟩
          refine lv_aload_n hx hb dX10_value_45 rfl (lv_at hl 1 rfl) ?_
          refine t_getfd C h t hu0 (by decide) wf_10 (v := .ref gq) kq2 fl_X10_26 dX10_value_46 ?_
          refine lv_aload hx hb dX10_value_49 (lv_at hl 0 rfl) ?_
          refine lv_iconst (v := 0) hx hb dX10_value_51 (by decide) ?_
          refine lv_iconst (v := 0) hx hb dX10_value_52 (by decide) ?_
          refine lv_iload_n hx hb dX10_value_53 rfl (lv_at hl 3 rfl) ?_
          obtain ⟨wqP54, twP54, kwP54⟩ := t_fref (tq := 2) (k := 0) t tq7 (by decide) wf_1 rfl
          obtain ⟨sxP54, isxP54, kxP54⟩ := t_fint (k := 1) t tq7 (by decide) wf_1 rfl
          obtain ⟨syP54, isyP54, kyP54⟩ := t_fint (k := 2) t tq7 (by decide) wf_1 rfl
          obtain ⟨wwP54, krP54, hwP54⟩ := ia_get t twP54 (by decide) wf_2
          obtain ⟨_, r45⟩ := t_rec t hgq (by decide) wf_20
          refine k_v (r_V C h hl (As := [.ref q7, .int 0, .int 0, .int u2]) (rest := []) (s_X2_go l D G b0 τ f t gq hgq q7 tq7 0 (iv_w (iv_k (x := 0) (k := 0) rfl) (by decide)) 0 (iv_w (iv_k (x := 0) (k := 0) rfl) (by decide)) u2 i16 wqP54 twP54 kwP54 sxP54 isxP54 kxP54 syP54 isyP54 kyP54 rq mq hGJ wwP54 krP54 (row10 wwP54 sxP54 syP54) 0 (row10_in hwP54)) r45 (Cn := RX2) (T := TX2) (N := 11) rfl rfl mk_X2_go w_659 w_660 w_661 w_662 ⟨Nat.le_of_ble_eq_true rfl, Nat.le_of_ble_eq_true rfl⟩ rfl (Nat.le_of_ble_eq_true rfl) ⟨Nat.le_of_ble_eq_true rfl, Nat.le_of_ble_eq_true rfl⟩ rfl dX10_value_54) h (fun f47 H locs p48 h => ?_)
          have n49 : (0 : Int32).toInt = 0 := rfl
          have n50 : (0 : Int32).toInt = 0 := rfl
          obtain ⟨tf47, ogf47, x0r46, gjf47⟩ := p48
          have of47 : Fr [20, 21, 22, 23, 24, 25, 20001, 20002, 20007, 20008, 20009, 20010, 20011, 22001, 22002, 22003, 22004, 23001, 23002, 23003, 23004] τ f f47 := Fr.tr o ogf47 (by decide) (by decide)
          have k51 := atp.fr kq2 ogf47 hu0 (by decide)
          have k52 := atp.fr kwP54 ogf47 tq7 (by decide)
          have k53 := atp.fr krP54 ogf47 twP54 (by decide)
          have k54 := atp.fr kxP54 ogf47 tq7 (by decide)
          have k55 := atp.fr kyP54 ogf47 tq7 (by decide)
          refine lv_aload_n hx hb dX10_value_57 rfl (lv_at hl 1 rfl) ?_
          refine t_getfd C h tf47 hu0 (by decide) wf_10 (v := .ref gq) k51 fl_X10_26 dX10_value_58 ?_
          refine lv_iload_n hx hb dX10_value_61 rfl (lv_at hl 4 rfl) ?_
          refine lv_iload hx hb dX10_value_62 (lv_at hl 5 rfl) ?_
          obtain ⟨_, r56⟩ := t_rec tf47 hgq (by decide) wf_20
          refine k_i (r_V C h hl (As := [.int u3, .int u4]) (rest := []) (s_X2_valueAt l D G b0 τ f47 tf47 gq hgq u3 (iv_w i30 (by decide)) u4 (iv_w i41 (by decide)) rq mq gjf47) r56 (Cn := RX2) (T := TX2) (N := 11) rfl rfl mk_X2_valueAt w_856 w_857 w_858 w_859 ⟨Nat.le_of_ble_eq_true rfl, Nat.le_of_ble_eq_true rfl⟩ rfl (Nat.le_of_ble_eq_true rfl) ⟨Nat.le_of_ble_eq_true rfl, Nat.le_of_ble_eq_true rfl⟩ rfl dX10_value_64) h (fun r57 f58 H locs p59 h => ?_)
          obtain ⟨ir57, tf58, ogf58⟩ := p59
          have egf58 := Fr.nil2 ogf58
          subst egf58
          exact u_iret C h hr hQ (⟨ir57, tf47, of47, gjf47⟩) (Nat.le_of_ble_eq_true rfl) (Nat.le_of_ble_eq_true rfl) dX10_value_67
        · have c42 : r31.toInt = 0 := congrArg Int32.toInt c36
          have i43 : iv r31 0 0 := iv_Q c42 ir31 (iv_k (x := 0) (k := 0) rfl) (by decide)
          have i44 := czr31 c42
          refine lv_iconst (v := -1) hx hb dX10_value_43 (by decide) ?_
          exact u_iret C h hr hQ (⟨⟨by decide, by decide⟩, t, o, hGJ⟩) (Nat.le_of_ble_eq_true rfl) (Nat.le_of_ble_eq_true rfl) dX10_value_44
abbrev rm_s_X10_peak : Room := { frames := 5, cells := 0, slots := 0, locals := 112 }
set_option maxRecDepth 100000 in
set_option maxHeartbeats 4000000 in
theorem s_X10_peak (l : Launch) (D : va_G) (G : Nat → Nat) (b0 : Nat) (τ : Nat → Nat) (f : hM) (t : TI G 9 τ f) (u0 : Nat) (hu0 : τ u0 = 10) (u1 : Int32) (hu1 : iv u1 (-2147483648) 2147483647) (u2 : Int32) (hu2 : iv u2 (-2147483648) 2147483647) (u3 : Int32) (hu3 : iv u3 (-2147483648) 2147483647) (gq rq mq : Nat) (hgq : τ gq = 20) (kq2 : atp f u0 (fd 2 (.ref gq))) (hGJ : GJ τ f gq rq mq) : mI l yX10_peak cX10_peak 5 (.int) rm_s_X10_peak D G b0 f [.ref u0, .int u1, .int u2, .int u3] (fun r f1 => iv r (-2147483648) 2147483647 ∧ TI G 9 τ f1 ∧ Fr [20, 21, 22, 23, 24, 25, 20001, 20002, 20007, 20008, 20009, 20010, 20011, 22001, 22002, 22003, 22004, 23001, 23002, 23003, 23004] τ f f1 ∧ GJ τ f1 gq rq mq) := by
  refine met2 (own := RX10) (by decide) rfl (Nat.le_of_ble_eq_true rfl) ?_
  intro p e s m args below meth c ls Q hQ C hr hini hl h
  have hl : lv_has ls 5 [(0, .ref u0), (1, .int u1), (2, .int u2), (3, .int u3)] := hl
  obtain ⟨hx, hb, hml, hown, hts, hE0, hlk⟩ := id C
  have o := Fr.rf [20, 21, 22, 23, 24, 25, 20001, 20002, 20007, 20008, 20009, 20010, 20011, 22001, 22002, 22003, 22004, 23001, 23002, 23003, 23004] τ f
  refine lv_aload_n hx hb dX10_peak_0 rfl (lv_at hl 0 rfl) ?_
  refine t_getr (tq := 12) C h t hu0 (by decide) wf_10 rfl fl_X10_19 dX10_peak_1 (fun q1 tq1 => ?_)
  refine lv_iload_n hx hb dX10_peak_4 rfl (lv_at hl 1 rfl) ?_
  obtain ⟨_, r2⟩ := t_rec t tq1 (by decide) wf_12
  refine k_q (r_V C h hl (As := [.int u1]) (rest := []) (s_X0_find l D G b0 τ f t q1 tq1 u1 hu1) r2 (Cn := RX0) (T := TX0) (N := 6) rfl rfl mk_X0_find w_594 w_595 w_596 w_597 ⟨Nat.le_of_ble_eq_true rfl, Nat.le_of_ble_eq_true rfl⟩ rfl (Nat.le_of_ble_eq_true rfl) ⟨Nat.le_of_ble_eq_true rfl, Nat.le_of_ble_eq_true rfl⟩ rfl dX10_peak_5) h (fun r3 f4 H locs p5 h => ?_)
  obtain ⟨qr3, tf4, ogf4⟩ := p5
  have egf4 := Fr.nil2 ogf4
  subst egf4
  have tr3 := qr3
  refine lv_astoreO (lv' := [(4, va_rf r3), (0, .ref u0), (1, .int u1), (2, .int u2), (3, .int u3)]) hx hb dX10_peak_8 hl (by decide) rfl (fun ls hl => ?_)
  refine lv_aloadO hx hb dX10_peak_10 (lv_at hl 0 rfl) ?_
  rcases va_rfc r3 with eq7 | ⟨q7, eq7⟩
  · subst eq7
    have hl : lv_has ls 5 [(4, .null), (0, .ref u0), (1, .int u1), (2, .int u2), (3, .int u3)] := hl
    show W _ _ _ _ _ _ _ _ _ _ _ _ _ _ _ (F0 m 12 ls [.null])
    refine lv_ifnullN (tgt := 34) hx hb dX10_peak_12 (by decide) ?_
    refine lv_ldc (v := -1000000) hx hb hown (hts _ w_772) dX10_peak_34 ?_
    exact u_iret C h hr hQ (⟨⟨by decide, by decide⟩, t, o, hGJ⟩) (Nat.le_of_ble_eq_true rfl) (Nat.le_of_ble_eq_true rfl) dX10_peak_36
  · subst eq7
    have tq7 : τ q7 = 1 := tr3 _ rfl
    have hl : lv_has ls 5 [(4, .ref q7), (0, .ref u0), (1, .int u1), (2, .int u2), (3, .int u3)] := hl
    show W _ _ _ _ _ _ _ _ _ _ _ _ _ _ _ (F0 m 12 ls [.ref q7])
    refine lv_ifnull hx hb dX10_peak_12 ?_
    refine lv_iload_n hx hb dX10_peak_15 rfl (lv_at hl 3 rfl) ?_
    refine lv_iconst (v := 0) hx hb dX10_peak_16 (by decide) ?_
    refine lv_bipush (v := 10) hx hb dX10_peak_17 (by decide) ?_
    refine k_i (r_S C h hl (As := [.int u2, .int 0, .int 10]) (rest := []) (s_X10_within l D G b0 τ f t u2 hu2 0 (iv_w (iv_k (x := 0) (k := 0) rfl) (by decide)) 10 (iv_w (iv_k (x := 10) (k := 10) rfl) (by decide))) mk_X10_within w_425 w_426 w_427 ⟨Nat.le_of_ble_eq_true rfl, Nat.le_of_ble_eq_true rfl⟩ rfl (Nat.le_of_ble_eq_true rfl) ⟨Nat.le_of_ble_eq_true rfl, Nat.le_of_ble_eq_true rfl⟩ rfl dX10_peak_19) h (fun r8 f9 H locs p10 h => ?_)
    have n11 : (0 : Int32).toInt = 0 := rfl
    have n12 : (10 : Int32).toInt = 10 := rfl
    obtain ⟨ir8, tf9, ogf9, cnr8, czr8⟩ := p10
    have egf9 := Fr.nil2 ogf9
    subst egf9
    refine lv_if_eq (tgt := 34) hx hb dX10_peak_22 (by decide) (fun c13 => ?_) (fun c13 => ?_)
    · have c14 : r8.toInt = 0 := congrArg Int32.toInt c13
      have i15 : iv r8 0 0 := iv_Q c14 ir8 (iv_k (x := 0) (k := 0) rfl) (by decide)
      have i16 := czr8 c14
      refine lv_ldc (v := -1000000) hx hb hown (hts _ w_772) dX10_peak_34 ?_
      exact u_iret C h hr hQ (⟨⟨by decide, by decide⟩, t, o, hGJ⟩) (Nat.le_of_ble_eq_true rfl) (Nat.le_of_ble_eq_true rfl) dX10_peak_36
    · have c17 : r8.toInt ≠ 0 := fun z_ => c13 (Int32.toInt_inj.mp z_)
      have i18 : iv r8 1 1 := iv_Nl c17 ir8 (by decide)
      obtain ⟨i19, i20⟩ := cnr8 c17
      have i21 : iv u2 0 10 := ⟨by omega, by omega⟩
      refine lv_iload_n hx hb dX10_peak_25 rfl (lv_at hl 4 rfl) ?_
      refine lv_iconst (v := 0) hx hb dX10_peak_26 (by decide) ?_
      refine lv_iconst (v := 2) hx hb dX10_peak_27 (by decide) ?_
      refine k_i (r_S C h hl (As := [.int u3, .int 0, .int 2]) (rest := []) (s_X10_within l D G b0 τ f t u3 hu3 0 (iv_w (iv_k (x := 0) (k := 0) rfl) (by decide)) 2 (iv_w (iv_k (x := 2) (k := 2) rfl) (by decide))) mk_X10_within w_425 w_426 w_427 ⟨Nat.le_of_ble_eq_true rfl, Nat.le_of_ble_eq_true rfl⟩ rfl (Nat.le_of_ble_eq_true rfl) ⟨Nat.le_of_ble_eq_true rfl, Nat.le_of_ble_eq_true rfl⟩ rfl dX10_peak_28) h (fun r22 f23 H locs p24 h => ?_)
      have n25 : (0 : Int32).toInt = 0 := rfl
      have n26 : (2 : Int32).toInt = 2 := rfl
      obtain ⟨ir22, tf23, ogf23, cnr22, czr22⟩ := p24
      have egf23 := Fr.nil2 ogf23
      subst egf23
      refine lv_if_ne (tgt := 37) hx hb dX10_peak_31 (by decide) (fun c27 => ?_) (fun c27 => ?_)
      · have c28 : r22.toInt ≠ 0 := fun z_ => c27 (Int32.toInt_inj.mp z_)
        have i29 : iv r22 1 1 := iv_Nl c28 ir22 (by decide)
        obtain ⟨i30, i31⟩ := cnr22 c28
        have i32 : iv u3 0 2 := ⟨by omega, by omega⟩
        refine lv_aload_n hx hb dX10_peak_37 rfl (lv_at hl 1 rfl) ?_
        refine t_getfd C h t hu0 (by decide) wf_10 (v := .ref gq) kq2 fl_X10_26 dX10_peak_38 ?_
        refine lv_aload hx hb dX10_peak_41 (lv_at hl 0 rfl) ?_
        refine lv_iconst (v := 2) hx hb dX10_peak_43 (by decide) ?_
        refine lv_iconst (v := 0) hx hb dX10_peak_44 (by decide) ?_
        refine lv_iload_n hx hb dX10_peak_45 rfl (lv_at hl 3 rfl) ?_
        obtain ⟨wqP46, twP46, kwP46⟩ := t_fref (tq := 2) (k := 0) t tq7 (by decide) wf_1 rfl
        obtain ⟨sxP46, isxP46, kxP46⟩ := t_fint (k := 1) t tq7 (by decide) wf_1 rfl
        obtain ⟨syP46, isyP46, kyP46⟩ := t_fint (k := 2) t tq7 (by decide) wf_1 rfl
        obtain ⟨wwP46, krP46, hwP46⟩ := ia_get t twP46 (by decide) wf_2
        obtain ⟨_, r36⟩ := t_rec t hgq (by decide) wf_20
        refine k_v (r_V C h hl (As := [.ref q7, .int 2, .int 0, .int u2]) (rest := []) (s_X2_go l D G b0 τ f t gq hgq q7 tq7 2 (iv_w (iv_k (x := 2) (k := 2) rfl) (by decide)) 0 (iv_w (iv_k (x := 0) (k := 0) rfl) (by decide)) u2 (iv_w i21 (by decide)) wqP46 twP46 kwP46 sxP46 isxP46 kxP46 syP46 isyP46 kyP46 rq mq hGJ wwP46 krP46 (row10 wwP46 sxP46 syP46) 0 (row10_in hwP46)) r36 (Cn := RX2) (T := TX2) (N := 11) rfl rfl mk_X2_go w_659 w_660 w_661 w_662 ⟨Nat.le_of_ble_eq_true rfl, Nat.le_of_ble_eq_true rfl⟩ rfl (Nat.le_of_ble_eq_true rfl) ⟨Nat.le_of_ble_eq_true rfl, Nat.le_of_ble_eq_true rfl⟩ rfl dX10_peak_46) h (fun f38 H locs p39 h => ?_)
        have n40 : (2 : Int32).toInt = 2 := rfl
        have n41 : (0 : Int32).toInt = 0 := rfl
        obtain ⟨tf38, ogf38, x0r37, gjf38⟩ := p39
        have of38 : Fr [20, 21, 22, 23, 24, 25, 20001, 20002, 20007, 20008, 20009, 20010, 20011, 22001, 22002, 22003, 22004, 23001, 23002, 23003, 23004] τ f f38 := Fr.tr o ogf38 (by decide) (by decide)
        have k42 := atp.fr kq2 ogf38 hu0 (by decide)
        have k43 := atp.fr kwP46 ogf38 tq7 (by decide)
        have k44 := atp.fr krP46 ogf38 twP46 (by decide)
        have k45 := atp.fr kxP46 ogf38 tq7 (by decide)
        have k46 := atp.fr kyP46 ogf38 tq7 (by decide)
        refine lv_aload_n hx hb dX10_peak_49 rfl (lv_at hl 1 rfl) ?_
        refine t_getfd C h tf38 hu0 (by decide) wf_10 (v := .ref gq) k42 fl_X10_26 dX10_peak_50 ?_
        refine lv_iload_n hx hb dX10_peak_53 rfl (lv_at hl 4 rfl) ?_
        obtain ⟨_, r47⟩ := t_rec tf38 hgq (by decide) wf_20
        refine k_i (r_V C h hl (As := [.int u3]) (rest := []) (s_X2_highest l D G b0 τ f38 tf38 gq hgq u3 (iv_w i32 (by decide)) rq mq gjf38) r47 (Cn := RX2) (T := TX2) (N := 11) rfl rfl mk_X2_highest w_900 w_901 w_902 w_903 ⟨Nat.le_of_ble_eq_true rfl, Nat.le_of_ble_eq_true rfl⟩ rfl (Nat.le_of_ble_eq_true rfl) ⟨Nat.le_of_ble_eq_true rfl, Nat.le_of_ble_eq_true rfl⟩ rfl dX10_peak_54) h (fun r48 f49 H locs p50 h => ?_)
        obtain ⟨ir48, tf49, ogf49⟩ := p50
        have egf49 := Fr.nil2 ogf49
        subst egf49
        exact u_iret C h hr hQ (⟨ir48, tf38, of38, gjf38⟩) (Nat.le_of_ble_eq_true rfl) (Nat.le_of_ble_eq_true rfl) dX10_peak_57
      · have c33 : r22.toInt = 0 := congrArg Int32.toInt c27
        have i34 : iv r22 0 0 := iv_Q c33 ir22 (iv_k (x := 0) (k := 0) rfl) (by decide)
        have i35 := czr22 c33
        refine lv_ldc (v := -1000000) hx hb hown (hts _ w_772) dX10_peak_34 ?_
        exact u_iret C h hr hQ (⟨⟨by decide, by decide⟩, t, o, hGJ⟩) (Nat.le_of_ble_eq_true rfl) (Nat.le_of_ble_eq_true rfl) dX10_peak_36
abbrev rm_s_X10_points : Room := { frames := 5, cells := 0, slots := 0, locals := 112 }
set_option maxRecDepth 100000 in
set_option maxHeartbeats 4000000 in
theorem s_X10_points (l : Launch) (D : va_G) (G : Nat → Nat) (b0 : Nat) (τ : Nat → Nat) (f : hM) (t : TI G 9 τ f) (u0 : Nat) (hu0 : τ u0 = 10) (u1 : Int32) (hu1 : iv u1 (-2147483648) 2147483647) (u2 : Int32) (hu2 : iv u2 (-2147483648) 2147483647) (gq rq mq : Nat) (hgq : τ gq = 20) (kq2 : atp f u0 (fd 2 (.ref gq))) (hGJ : GJ τ f gq rq mq) : mI l yX10_points cX10_points 4 (.int) rm_s_X10_points D G b0 f [.ref u0, .int u1, .int u2] (fun r f1 => iv r (-2147483648) 2147483647 ∧ TI G 9 τ f1 ∧ Fr [20, 21, 22, 23, 24, 25, 20001, 20002, 20007, 20008, 20009, 20010, 20011, 22001, 22002, 22003, 22004, 23001, 23002, 23003, 23004] τ f f1 ∧ GJ τ f1 gq rq mq) := by
  refine met2 (own := RX10) (by decide) rfl (Nat.le_of_ble_eq_true rfl) ?_
  intro p e s m args below meth c ls Q hQ C hr hini hl h
  have hl : lv_has ls 4 [(0, .ref u0), (1, .int u1), (2, .int u2)] := hl
  obtain ⟨hx, hb, hml, hown, hts, hE0, hlk⟩ := id C
  have o := Fr.rf [20, 21, 22, 23, 24, 25, 20001, 20002, 20007, 20008, 20009, 20010, 20011, 22001, 22002, 22003, 22004, 23001, 23002, 23003, 23004] τ f
  refine lv_aload_n hx hb dX10_points_0 rfl (lv_at hl 0 rfl) ?_
  refine t_getr (tq := 12) C h t hu0 (by decide) wf_10 rfl fl_X10_19 dX10_points_1 (fun q1 tq1 => ?_)
  refine lv_iload_n hx hb dX10_points_4 rfl (lv_at hl 1 rfl) ?_
  obtain ⟨_, r2⟩ := t_rec t tq1 (by decide) wf_12
  refine k_q (r_V C h hl (As := [.int u1]) (rest := []) (s_X0_find l D G b0 τ f t q1 tq1 u1 hu1) r2 (Cn := RX0) (T := TX0) (N := 6) rfl rfl mk_X0_find w_594 w_595 w_596 w_597 ⟨Nat.le_of_ble_eq_true rfl, Nat.le_of_ble_eq_true rfl⟩ rfl (Nat.le_of_ble_eq_true rfl) ⟨Nat.le_of_ble_eq_true rfl, Nat.le_of_ble_eq_true rfl⟩ rfl dX10_points_5) h (fun r3 f4 H locs p5 h => ?_)
  obtain ⟨qr3, tf4, ogf4⟩ := p5
  have egf4 := Fr.nil2 ogf4
  subst egf4
  have tr3 := qr3
  refine lv_astore_nO (lv' := [(3, va_rf r3), (0, .ref u0), (1, .int u1), (2, .int u2)]) hx hb dX10_points_8 rfl hl (by decide) rfl (fun ls hl => ?_)
  refine lv_aload_nO hx hb dX10_points_9 rfl (lv_at hl 0 rfl) ?_
  rcases va_rfc r3 with eq7 | ⟨q7, eq7⟩
  · subst eq7
    have hl : lv_has ls 4 [(3, .null), (0, .ref u0), (1, .int u1), (2, .int u2)] := hl
    show W _ _ _ _ _ _ _ _ _ _ _ _ _ _ _ (F0 m 10 ls [.null])
    refine lv_ifnullN (tgt := 20) hx hb dX10_points_10 (by decide) ?_
    refine lv_iconst (v := -1) hx hb dX10_points_20 (by decide) ?_
    exact u_iret C h hr hQ (⟨⟨by decide, by decide⟩, t, o, hGJ⟩) (Nat.le_of_ble_eq_true rfl) (Nat.le_of_ble_eq_true rfl) dX10_points_21
  · subst eq7
    have tq7 : τ q7 = 1 := tr3 _ rfl
    have hl : lv_has ls 4 [(3, .ref q7), (0, .ref u0), (1, .int u1), (2, .int u2)] := hl
    show W _ _ _ _ _ _ _ _ _ _ _ _ _ _ _ (F0 m 10 ls [.ref q7])
    refine lv_ifnull hx hb dX10_points_10 ?_
    refine lv_iload_n hx hb dX10_points_13 rfl (lv_at hl 3 rfl) ?_
    refine k_i (r_S C h hl (As := [.int u2]) (rest := []) (s_X10_isLength l D G b0 τ f t u2 hu2) mk_X10_isLength w_653 w_654 w_655 ⟨Nat.le_of_ble_eq_true rfl, Nat.le_of_ble_eq_true rfl⟩ rfl (Nat.le_of_ble_eq_true rfl) ⟨Nat.le_of_ble_eq_true rfl, Nat.le_of_ble_eq_true rfl⟩ rfl dX10_points_14) h (fun r8 f9 H locs p10 h => ?_)
    obtain ⟨ir8, tf9, ogf9, cnr8⟩ := p10
    have egf9 := Fr.nil2 ogf9
    subst egf9
    refine lv_if_ne (tgt := 22) hx hb dX10_points_17 (by decide) (fun c11 => ?_) (fun c11 => ?_)
    · have c12 : r8.toInt ≠ 0 := fun z_ => c11 (Int32.toInt_inj.mp z_)
      have i13 : iv r8 1 1 := iv_Nl c12 ir8 (by decide)
      have i14 := cnr8 c12
      refine lv_aload_n hx hb dX10_points_22 rfl (lv_at hl 1 rfl) ?_
      refine t_getfd C h t hu0 (by decide) wf_10 (v := .ref gq) kq2 fl_X10_26 dX10_points_23 ?_
      refine lv_aload_n hx hb dX10_points_26 rfl (lv_at hl 0 rfl) ?_
      refine lv_iconst (v := 3) hx hb dX10_points_27 (by decide) ?_
      refine lv_iconst (v := 0) hx hb dX10_points_28 (by decide) ?_
      refine lv_iload_n hx hb dX10_points_29 rfl (lv_at hl 3 rfl) ?_
      obtain ⟨wqP30, twP30, kwP30⟩ := t_fref (tq := 2) (k := 0) t tq7 (by decide) wf_1 rfl
      obtain ⟨sxP30, isxP30, kxP30⟩ := t_fint (k := 1) t tq7 (by decide) wf_1 rfl
      obtain ⟨syP30, isyP30, kyP30⟩ := t_fint (k := 2) t tq7 (by decide) wf_1 rfl
      obtain ⟨wwP30, krP30, hwP30⟩ := ia_get t twP30 (by decide) wf_2
      obtain ⟨_, r17⟩ := t_rec t hgq (by decide) wf_20
      refine k_v (r_V C h hl (As := [.ref q7, .int 3, .int 0, .int u2]) (rest := []) (s_X2_go l D G b0 τ f t gq hgq q7 tq7 3 (iv_w (iv_k (x := 3) (k := 3) rfl) (by decide)) 0 (iv_w (iv_k (x := 0) (k := 0) rfl) (by decide)) u2 i14 wqP30 twP30 kwP30 sxP30 isxP30 kxP30 syP30 isyP30 kyP30 rq mq hGJ wwP30 krP30 (row10 wwP30 sxP30 syP30) 0 (row10_in hwP30)) r17 (Cn := RX2) (T := TX2) (N := 11) rfl rfl mk_X2_go w_659 w_660 w_661 w_662 ⟨Nat.le_of_ble_eq_true rfl, Nat.le_of_ble_eq_true rfl⟩ rfl (Nat.le_of_ble_eq_true rfl) ⟨Nat.le_of_ble_eq_true rfl, Nat.le_of_ble_eq_true rfl⟩ rfl dX10_points_30) h (fun f19 H locs p20 h => ?_)
      have n21 : (3 : Int32).toInt = 3 := rfl
      have n22 : (0 : Int32).toInt = 0 := rfl
      obtain ⟨tf19, ogf19, x0r18, gjf19⟩ := p20
      have of19 : Fr [20, 21, 22, 23, 24, 25, 20001, 20002, 20007, 20008, 20009, 20010, 20011, 22001, 22002, 22003, 22004, 23001, 23002, 23003, 23004] τ f f19 := Fr.tr o ogf19 (by decide) (by decide)
      have k23 := atp.fr kq2 ogf19 hu0 (by decide)
      have k24 := atp.fr kwP30 ogf19 tq7 (by decide)
      have k25 := atp.fr krP30 ogf19 twP30 (by decide)
      have k26 := atp.fr kxP30 ogf19 tq7 (by decide)
      have k27 := atp.fr kyP30 ogf19 tq7 (by decide)
      refine lv_aload_n hx hb dX10_points_33 rfl (lv_at hl 1 rfl) ?_
      refine t_getfd C h tf19 hu0 (by decide) wf_10 (v := .ref gq) k23 fl_X10_26 dX10_points_34 ?_
      obtain ⟨_, r28⟩ := t_rec tf19 hgq (by decide) wf_20
      refine k_i (r_V C h hl (As := []) (rest := []) (s_X2_filledCells l D G b0 τ f19 tf19 gq hgq rq mq gjf19) r28 (Cn := RX2) (T := TX2) (N := 11) rfl rfl mk_X2_filledCells w_909 w_910 w_911 w_912 ⟨Nat.le_of_ble_eq_true rfl, Nat.le_of_ble_eq_true rfl⟩ rfl (Nat.le_of_ble_eq_true rfl) ⟨Nat.le_of_ble_eq_true rfl, Nat.le_of_ble_eq_true rfl⟩ rfl dX10_points_37) h (fun r29 f30 H locs p31 h => ?_)
      obtain ⟨ir29, tf30, ogf30⟩ := p31
      have egf30 := Fr.nil2 ogf30
      subst egf30
      exact u_iret C h hr hQ (⟨ir29, tf19, of19, gjf19⟩) (Nat.le_of_ble_eq_true rfl) (Nat.le_of_ble_eq_true rfl) dX10_points_40
    · have c15 : r8.toInt = 0 := congrArg Int32.toInt c11
      have i16 : iv r8 0 0 := iv_Q c15 ir8 (iv_k (x := 0) (k := 0) rfl) (by decide)
      refine lv_iconst (v := -1) hx hb dX10_points_20 (by decide) ?_
      exact u_iret C h hr hQ (⟨⟨by decide, by decide⟩, t, o, hGJ⟩) (Nat.le_of_ble_eq_true rfl) (Nat.le_of_ble_eq_true rfl) dX10_points_21
abbrev rm_s_X10_meet : Room := { frames := 5, cells := 0, slots := 0, locals := 112 }
set_option maxRecDepth 100000 in
set_option maxHeartbeats 4000000 in
theorem s_X10_meet (l : Launch) (D : va_G) (G : Nat → Nat) (b0 : Nat) (τ : Nat → Nat) (f : hM) (t : TI G 9 τ f) (u0 : Nat) (hu0 : τ u0 = 10) (u1 : Int32) (hu1 : iv u1 (-2147483648) 2147483647) (u2 : Int32) (hu2 : iv u2 (-2147483648) 2147483647) (u3 : Int32) (hu3 : iv u3 (-2147483648) 2147483647) (gq rq mq : Nat) (hgq : τ gq = 20) (kq2 : atp f u0 (fd 2 (.ref gq))) (hGJ : GJ τ f gq rq mq) : mI l yX10_meet cX10_meet 6 (.int) rm_s_X10_meet D G b0 f [.ref u0, .int u1, .int u2, .int u3] (fun r f1 => iv r (-2147483648) 2147483647 ∧ TI G 9 τ f1 ∧ Fr [20, 21, 22, 23, 24, 25, 51, 20001, 20002, 20007, 20008, 20009, 20010, 20011, 22001, 22002, 22003, 22004, 23001, 23002, 23003, 23004] τ f f1 ∧ GJ τ f1 gq rq mq) := by
  refine met2 (own := RX10) (by decide) rfl (Nat.le_of_ble_eq_true rfl) ?_
  intro p e s m args below meth c ls Q hQ C hr hini hl h
  have hl : lv_has ls 6 [(0, .ref u0), (1, .int u1), (2, .int u2), (3, .int u3)] := hl
  obtain ⟨hx, hb, hml, hown, hts, hE0, hlk⟩ := id C
  have o := Fr.rf [20, 21, 22, 23, 24, 25, 51, 20001, 20002, 20007, 20008, 20009, 20010, 20011, 22001, 22002, 22003, 22004, 23001, 23002, 23003, 23004] τ f
  refine lv_aload_n hx hb dX10_meet_0 rfl (lv_at hl 0 rfl) ?_
  refine t_getr (tq := 12) C h t hu0 (by decide) wf_10 rfl fl_X10_19 dX10_meet_1 (fun q1 tq1 => ?_)
  refine lv_iload_n hx hb dX10_meet_4 rfl (lv_at hl 1 rfl) ?_
  obtain ⟨_, r2⟩ := t_rec t tq1 (by decide) wf_12
  refine k_q (r_V C h hl (As := [.int u1]) (rest := []) (s_X0_find l D G b0 τ f t q1 tq1 u1 hu1) r2 (Cn := RX0) (T := TX0) (N := 6) rfl rfl mk_X0_find w_594 w_595 w_596 w_597 ⟨Nat.le_of_ble_eq_true rfl, Nat.le_of_ble_eq_true rfl⟩ rfl (Nat.le_of_ble_eq_true rfl) ⟨Nat.le_of_ble_eq_true rfl, Nat.le_of_ble_eq_true rfl⟩ rfl dX10_meet_5) h (fun r3 f4 H locs p5 h => ?_)
  obtain ⟨qr3, tf4, ogf4⟩ := p5
  have egf4 := Fr.nil2 ogf4
  subst egf4
  have tr3 := qr3
  refine lv_astoreO (lv' := [(4, va_rf r3), (0, .ref u0), (1, .int u1), (2, .int u2), (3, .int u3)]) hx hb dX10_meet_8 hl (by decide) rfl (fun ls hl => ?_)
  refine lv_aload_n hx hb dX10_meet_10 rfl (lv_at hl 1 rfl) ?_
  refine t_getr (tq := 12) C h t hu0 (by decide) wf_10 rfl fl_X10_19 dX10_meet_11 (fun q7 tq7 => ?_)
  refine lv_iload_n hx hb dX10_meet_14 rfl (lv_at hl 3 rfl) ?_
  obtain ⟨_, r8⟩ := t_rec t tq7 (by decide) wf_12
  refine k_q (r_V C h hl (As := [.int u2]) (rest := []) (s_X0_find l D G b0 τ f t q7 tq7 u2 hu2) r8 (Cn := RX0) (T := TX0) (N := 6) rfl rfl mk_X0_find w_594 w_595 w_596 w_597 ⟨Nat.le_of_ble_eq_true rfl, Nat.le_of_ble_eq_true rfl⟩ rfl (Nat.le_of_ble_eq_true rfl) ⟨Nat.le_of_ble_eq_true rfl, Nat.le_of_ble_eq_true rfl⟩ rfl dX10_meet_15) h (fun r9 f10 H locs p11 h => ?_)
  obtain ⟨qr9, tf10, ogf10⟩ := p11
  have egf10 := Fr.nil2 ogf10
  subst egf10
  have tr9 := qr9
  refine lv_astoreO (lv' := [(5, va_rf r9), (4, va_rf r3), (0, .ref u0), (1, .int u1), (2, .int u2), (3, .int u3)]) hx hb dX10_meet_18 hl (by decide) (by simp [va_rfcat]) (fun ls hl => ?_)
  refine lv_aloadO hx hb dX10_meet_20 (lv_at hl 1 rfl) ?_
  rcases va_rfc r3 with eq13 | ⟨q13, eq13⟩
  · subst eq13
    have hl : lv_has ls 6 [(5, va_rf r9), (4, .null), (0, .ref u0), (1, .int u1), (2, .int u2), (3, .int u3)] := hl
    show W _ _ _ _ _ _ _ _ _ _ _ _ _ _ _ (F0 m 22 ls [.null])
    refine lv_ifnullN (tgt := 37) hx hb dX10_meet_22 (by decide) ?_
    refine lv_iconst (v := -1) hx hb dX10_meet_37 (by decide) ?_
    exact u_iret C h hr hQ (⟨⟨by decide, by decide⟩, t, o, hGJ⟩) (Nat.le_of_ble_eq_true rfl) (Nat.le_of_ble_eq_true rfl) dX10_meet_38
  · subst eq13
    have tq13 : τ q13 = 1 := tr3 _ rfl
    have hl : lv_has ls 6 [(5, va_rf r9), (4, .ref q13), (0, .ref u0), (1, .int u1), (2, .int u2), (3, .int u3)] := hl
    show W _ _ _ _ _ _ _ _ _ _ _ _ _ _ _ (F0 m 22 ls [.ref q13])
    refine lv_ifnull hx hb dX10_meet_22 ?_
    refine lv_aloadO hx hb dX10_meet_25 (lv_at hl 0 rfl) ?_
    rcases va_rfc r9 with eq14 | ⟨q14, eq14⟩
    · subst eq14
      have hl : lv_has ls 6 [(5, .null), (4, .ref q13), (0, .ref u0), (1, .int u1), (2, .int u2), (3, .int u3)] := hl
      show W _ _ _ _ _ _ _ _ _ _ _ _ _ _ _ (F0 m 27 ls [.null])
      refine lv_ifnullN (tgt := 37) hx hb dX10_meet_27 (by decide) ?_
      refine lv_iconst (v := -1) hx hb dX10_meet_37 (by decide) ?_
      exact u_iret C h hr hQ (⟨⟨by decide, by decide⟩, t, o, hGJ⟩) (Nat.le_of_ble_eq_true rfl) (Nat.le_of_ble_eq_true rfl) dX10_meet_38
    · subst eq14
      have tq14 : τ q14 = 1 := tr9 _ rfl
      have hl : lv_has ls 6 [(5, .ref q14), (4, .ref q13), (0, .ref u0), (1, .int u1), (2, .int u2), (3, .int u3)] := hl
      show W _ _ _ _ _ _ _ _ _ _ _ _ _ _ _ (F0 m 27 ls [.ref q14])
      refine lv_ifnull hx hb dX10_meet_27 ?_
      refine lv_iload_n hx hb dX10_meet_30 rfl (lv_at hl 5 rfl) ?_
      refine k_i (r_S C h hl (As := [.int u3]) (rest := []) (s_X10_isLength l D G b0 τ f t u3 hu3) mk_X10_isLength w_653 w_654 w_655 ⟨Nat.le_of_ble_eq_true rfl, Nat.le_of_ble_eq_true rfl⟩ rfl (Nat.le_of_ble_eq_true rfl) ⟨Nat.le_of_ble_eq_true rfl, Nat.le_of_ble_eq_true rfl⟩ rfl dX10_meet_31) h (fun r15 f16 H locs p17 h => ?_)
      obtain ⟨ir15, tf16, ogf16, cnr15⟩ := p17
      have egf16 := Fr.nil2 ogf16
      subst egf16
      refine lv_if_ne (tgt := 39) hx hb dX10_meet_34 (by decide) (fun c18 => ?_) (fun c18 => ?_)
      · have c19 : r15.toInt ≠ 0 := fun z_ => c18 (Int32.toInt_inj.mp z_)
        have i20 : iv r15 1 1 := iv_Nl c19 ir15 (by decide)
        have i21 := cnr15 c19
        refine lv_aload_n hx hb dX10_meet_39 rfl (lv_at hl 2 rfl) ?_
        refine t_getfd C h t hu0 (by decide) wf_10 (v := .ref gq) kq2 fl_X10_26 dX10_meet_40 ?_
        refine lv_aload hx hb dX10_meet_43 (lv_at hl 1 rfl) ?_
        refine lv_iconst (v := 0) hx hb dX10_meet_45 (by decide) ?_
        refine lv_iconst (v := 0) hx hb dX10_meet_46 (by decide) ?_
        refine lv_iload_n hx hb dX10_meet_47 rfl (lv_at hl 5 rfl) ?_
        obtain ⟨wqP48, twP48, kwP48⟩ := t_fref (tq := 2) (k := 0) t tq13 (by decide) wf_1 rfl
        obtain ⟨sxP48, isxP48, kxP48⟩ := t_fint (k := 1) t tq13 (by decide) wf_1 rfl
        obtain ⟨syP48, isyP48, kyP48⟩ := t_fint (k := 2) t tq13 (by decide) wf_1 rfl
        obtain ⟨wwP48, krP48, hwP48⟩ := ia_get t twP48 (by decide) wf_2
        obtain ⟨_, r24⟩ := t_rec t hgq (by decide) wf_20
        refine k_v (r_V C h hl (As := [.ref q13, .int 0, .int 0, .int u3]) (rest := []) (s_X2_go l D G b0 τ f t gq hgq q13 tq13 0 (iv_w (iv_k (x := 0) (k := 0) rfl) (by decide)) 0 (iv_w (iv_k (x := 0) (k := 0) rfl) (by decide)) u3 i21 wqP48 twP48 kwP48 sxP48 isxP48 kxP48 syP48 isyP48 kyP48 rq mq hGJ wwP48 krP48 (row10 wwP48 sxP48 syP48) 0 (row10_in hwP48)) r24 (Cn := RX2) (T := TX2) (N := 11) rfl rfl mk_X2_go w_659 w_660 w_661 w_662 ⟨Nat.le_of_ble_eq_true rfl, Nat.le_of_ble_eq_true rfl⟩ rfl (Nat.le_of_ble_eq_true rfl) ⟨Nat.le_of_ble_eq_true rfl, Nat.le_of_ble_eq_true rfl⟩ rfl dX10_meet_48) h (fun f26 H locs p27 h => ?_)
        have n28 : (0 : Int32).toInt = 0 := rfl
        have n29 : (0 : Int32).toInt = 0 := rfl
        obtain ⟨tf26, ogf26, x0r25, gjf26⟩ := p27
        have of26 : Fr [20, 21, 22, 23, 24, 25, 51, 20001, 20002, 20007, 20008, 20009, 20010, 20011, 22001, 22002, 22003, 22004, 23001, 23002, 23003, 23004] τ f f26 := Fr.tr o ogf26 (by decide) (by decide)
        have k30 := atp.fr kq2 ogf26 hu0 (by decide)
        have k31 := atp.fr kwP48 ogf26 tq13 (by decide)
        have k32 := atp.fr krP48 ogf26 twP48 (by decide)
        have k33 := atp.fr kxP48 ogf26 tq13 (by decide)
        have k34 := atp.fr kyP48 ogf26 tq13 (by decide)
        refine lv_aload_n hx hb dX10_meet_51 rfl (lv_at hl 2 rfl) ?_
        refine t_getfd C h tf26 hu0 (by decide) wf_10 (v := .ref gq) k30 fl_X10_26 dX10_meet_52 ?_
        refine lv_aload_n hx hb dX10_meet_55 rfl (lv_at hl 2 rfl) ?_
        refine t_getr (tq := 51) C h tf26 hu0 (by decide) wf_10 rfl fl_X10_64 dX10_meet_56 (fun q35 tq35 => ?_)
        obtain ⟨_, r36⟩ := t_rec tf26 hgq (by decide) wf_20
        refine k_v (r_V C h hl (As := [.ref q35]) (rest := []) (s_X2_copyQuarter l D G b0 τ f26 tf26 gq hgq q35 tq35 rq mq gjf26) r36 (Cn := RX2) (T := TX2) (N := 11) rfl rfl mk_X2_copyQuarter w_928 w_929 w_930 w_931 ⟨Nat.le_of_ble_eq_true rfl, Nat.le_of_ble_eq_true rfl⟩ rfl (Nat.le_of_ble_eq_true rfl) ⟨Nat.le_of_ble_eq_true rfl, Nat.le_of_ble_eq_true rfl⟩ rfl dX10_meet_59) h (fun f38 H locs p39 h => ?_)
        obtain ⟨tf38, ogf38⟩ := p39
        have of38 : Fr [20, 21, 22, 23, 24, 25, 51, 20001, 20002, 20007, 20008, 20009, 20010, 20011, 22001, 22002, 22003, 22004, 23001, 23002, 23003, 23004] τ f f38 := Fr.tr of26 ogf38 (by decide) (by decide)
        have k40 := atp.fr k30 ogf38 hu0 (by decide)
        have k41 := atp.fr k31 ogf38 tq13 (by decide)
        have k42 := atp.fr k32 ogf38 twP48 (by decide)
        have k43 := atp.fr k33 ogf38 tq13 (by decide)
        have k44 := atp.fr k34 ogf38 tq13 (by decide)
        have k45 := GJ.fr gjf26 ogf38 hgq (by decide)
        have k46 := GS.fr x0r25 ogf38 (by decide)
        refine lv_aload_n hx hb dX10_meet_62 rfl (lv_at hl 2 rfl) ?_
        refine t_getfd C h tf38 hu0 (by decide) wf_10 (v := .ref gq) k40 fl_X10_26 dX10_meet_63 ?_
        refine lv_aload hx hb dX10_meet_66 (lv_at hl 0 rfl) ?_
        refine lv_iconst (v := 0) hx hb dX10_meet_68 (by decide) ?_
        refine lv_iconst (v := 0) hx hb dX10_meet_69 (by decide) ?_
        refine lv_iload_n hx hb dX10_meet_70 rfl (lv_at hl 5 rfl) ?_
        obtain ⟨wqP71, twP71, kwP71⟩ := t_fref (tq := 2) (k := 0) tf38 tq14 (by decide) wf_1 rfl
        obtain ⟨sxP71, isxP71, kxP71⟩ := t_fint (k := 1) tf38 tq14 (by decide) wf_1 rfl
        obtain ⟨syP71, isyP71, kyP71⟩ := t_fint (k := 2) tf38 tq14 (by decide) wf_1 rfl
        obtain ⟨wwP71, krP71, hwP71⟩ := ia_get tf38 twP71 (by decide) wf_2
        obtain ⟨_, r47⟩ := t_rec tf38 hgq (by decide) wf_20
        refine k_v (r_V C h hl (As := [.ref q14, .int 0, .int 0, .int u3]) (rest := []) (s_X2_go l D G b0 τ f38 tf38 gq hgq q14 tq14 0 (iv_w (iv_k (x := 0) (k := 0) rfl) (by decide)) 0 (iv_w (iv_k (x := 0) (k := 0) rfl) (by decide)) u3 i21 wqP71 twP71 kwP71 sxP71 isxP71 kxP71 syP71 isyP71 kyP71 rq mq k45 wwP71 krP71 (row10 wwP71 sxP71 syP71) 0 (row10_in hwP71)) r47 (Cn := RX2) (T := TX2) (N := 11) rfl rfl mk_X2_go w_659 w_660 w_661 w_662 ⟨Nat.le_of_ble_eq_true rfl, Nat.le_of_ble_eq_true rfl⟩ rfl (Nat.le_of_ble_eq_true rfl) ⟨Nat.le_of_ble_eq_true rfl, Nat.le_of_ble_eq_true rfl⟩ rfl dX10_meet_71) h (fun f49 H locs p50 h => ?_)
        have n51 : (0 : Int32).toInt = 0 := rfl
        have n52 : (0 : Int32).toInt = 0 := rfl
        obtain ⟨tf49, ogf49, x0r48, gjf49⟩ := p50
        have of49 : Fr [20, 21, 22, 23, 24, 25, 51, 20001, 20002, 20007, 20008, 20009, 20010, 20011, 22001, 22002, 22003, 22004, 23001, 23002, 23003, 23004] τ f f49 := Fr.tr of38 ogf49 (by decide) (by decide)
        have k53 := atp.fr k40 ogf49 hu0 (by decide)
        have k54 := atp.fr k41 ogf49 tq13 (by decide)
        have k55 := atp.fr k42 ogf49 twP48 (by decide)
        have k56 := atp.fr k43 ogf49 tq13 (by decide)
        have k57 := atp.fr k44 ogf49 tq13 (by decide)
        have k58 := atp.fr kwP71 ogf49 tq14 (by decide)
        have k59 := atp.fr krP71 ogf49 twP71 (by decide)
        have k60 := atp.fr kxP71 ogf49 tq14 (by decide)
        have k61 := atp.fr kyP71 ogf49 tq14 (by decide)
        refine lv_aload_n hx hb dX10_meet_74 rfl (lv_at hl 2 rfl) ?_
        refine t_getfd C h tf49 hu0 (by decide) wf_10 (v := .ref gq) k53 fl_X10_26 dX10_meet_75 ?_
        refine lv_aload_n hx hb dX10_meet_78 rfl (lv_at hl 2 rfl) ?_
        refine t_getr (tq := 51) C h tf49 hu0 (by decide) wf_10 rfl fl_X10_64 dX10_meet_79 (fun q62 tq62 => ?_)
        obtain ⟨_, r63⟩ := t_rec tf49 hgq (by decide) wf_20
        refine k_i (r_V C h hl (As := [.ref q62]) (rest := []) (s_X2_matched l D G b0 τ f49 tf49 gq hgq q62 tq62 rq mq gjf49) r63 (Cn := RX2) (T := TX2) (N := 11) rfl rfl mk_X2_matched w_932 w_933 w_934 w_935 ⟨Nat.le_of_ble_eq_true rfl, Nat.le_of_ble_eq_true rfl⟩ rfl (Nat.le_of_ble_eq_true rfl) ⟨Nat.le_of_ble_eq_true rfl, Nat.le_of_ble_eq_true rfl⟩ rfl dX10_meet_82) h (fun r64 f65 H locs p66 h => ?_)
        obtain ⟨ir64, tf65, ogf65⟩ := p66
        have egf65 := Fr.nil2 ogf65
        subst egf65
        exact u_iret C h hr hQ (⟨ir64, tf49, of49, gjf49⟩) (Nat.le_of_ble_eq_true rfl) (Nat.le_of_ble_eq_true rfl) dX10_meet_85
      · have c22 : r15.toInt = 0 := congrArg Int32.toInt c18
        have i23 : iv r15 0 0 := iv_Q c22 ir15 (iv_k (x := 0) (k := 0) rfl) (by decide)
        refine lv_iconst (v := -1) hx hb dX10_meet_37 (by decide) ?_
        exact u_iret C h hr hQ (⟨⟨by decide, by decide⟩, t, o, hGJ⟩) (Nat.le_of_ble_eq_true rfl) (Nat.le_of_ble_eq_true rfl) dX10_meet_38
abbrev rm_s_X10_bridge : Room := { frames := 4, cells := 0, slots := 0, locals := 88 }
set_option maxRecDepth 100000 in
set_option maxHeartbeats 4000000 in
theorem s_X10_bridge (l : Launch) (D : va_G) (G : Nat → Nat) (b0 : Nat) (τ : Nat → Nat) (f : hM) (t : TI G 9 τ f) (u0 : Nat) (hu0 : τ u0 = 10) (u1 : Int32) (hu1 : iv u1 (-2147483648) 2147483647) (u2 : Int32) (hu2 : iv u2 (-2147483648) 2147483647) (u3 : Int32) (hu3 : iv u3 (-2147483648) 2147483647) (u4 : Int32) (hu4 : iv u4 (-2147483648) 2147483647) (gq rq mq : Nat) (hgq : τ gq = 20) (kq2 : atp f u0 (fd 2 (.ref gq))) (hGJ : GJ τ f gq rq mq) : mI l yX10_bridge cX10_bridge 6 (.int) rm_s_X10_bridge D G b0 f [.ref u0, .int u1, .int u2, .int u3, .int u4] (fun r f1 => iv r (-2147483648) 2147483647 ∧ TI G 9 τ f1 ∧ Fr [20, 21, 22, 23, 24, 25, 20001, 20002, 20007, 20008, 20009, 20010, 20011, 22001, 22002, 22003, 22004, 23001, 23002, 23003, 23004] τ f f1 ∧ GJ τ f1 gq rq mq) := by
  refine met2 (own := RX10) (by decide) rfl (Nat.le_of_ble_eq_true rfl) ?_
  intro p e s m args below meth c ls Q hQ C hr hini hl h
  have hl : lv_has ls 6 [(0, .ref u0), (1, .int u1), (2, .int u2), (3, .int u3), (4, .int u4)] := hl
  obtain ⟨hx, hb, hml, hown, hts, hE0, hlk⟩ := id C
  have o := Fr.rf [20, 21, 22, 23, 24, 25, 20001, 20002, 20007, 20008, 20009, 20010, 20011, 22001, 22002, 22003, 22004, 23001, 23002, 23003, 23004] τ f
  refine lv_aload_n hx hb dX10_bridge_0 rfl (lv_at hl 0 rfl) ?_
  refine t_getr (tq := 12) C h t hu0 (by decide) wf_10 rfl fl_X10_19 dX10_bridge_1 (fun q1 tq1 => ?_)
  refine lv_iload_n hx hb dX10_bridge_4 rfl (lv_at hl 1 rfl) ?_
  obtain ⟨_, r2⟩ := t_rec t tq1 (by decide) wf_12
  refine k_q (r_V C h hl (As := [.int u1]) (rest := []) (s_X0_find l D G b0 τ f t q1 tq1 u1 hu1) r2 (Cn := RX0) (T := TX0) (N := 6) rfl rfl mk_X0_find w_594 w_595 w_596 w_597 ⟨Nat.le_of_ble_eq_true rfl, Nat.le_of_ble_eq_true rfl⟩ rfl (Nat.le_of_ble_eq_true rfl) ⟨Nat.le_of_ble_eq_true rfl, Nat.le_of_ble_eq_true rfl⟩ rfl dX10_bridge_5) h (fun r3 f4 H locs p5 h => ?_)
  obtain ⟨qr3, tf4, ogf4⟩ := p5
  have egf4 := Fr.nil2 ogf4
  subst egf4
  have tr3 := qr3
  refine lv_astoreO (lv' := [(5, va_rf r3), (0, .ref u0), (1, .int u1), (2, .int u2), (3, .int u3), (4, .int u4)]) hx hb dX10_bridge_8 hl (by decide) rfl (fun ls hl => ?_)
  refine lv_aloadO hx hb dX10_bridge_10 (lv_at hl 0 rfl) ?_
  rcases va_rfc r3 with eq7 | ⟨q7, eq7⟩
  · subst eq7
    have hl : lv_has ls 6 [(5, .null), (0, .ref u0), (1, .int u1), (2, .int u2), (3, .int u3), (4, .int u4)] := hl
    show W _ _ _ _ _ _ _ _ _ _ _ _ _ _ _ (F0 m 12 ls [.null])
    refine lv_ifnullN (tgt := 31) hx hb dX10_bridge_12 (by decide) ?_
    refine lv_iconst (v := -1) hx hb dX10_bridge_31 (by decide) ?_
    exact u_iret C h hr hQ (⟨⟨by decide, by decide⟩, t, o, hGJ⟩) (Nat.le_of_ble_eq_true rfl) (Nat.le_of_ble_eq_true rfl) dX10_bridge_32
  · subst eq7
    have tq7 : τ q7 = 1 := tr3 _ rfl
    have hl : lv_has ls 6 [(5, .ref q7), (0, .ref u0), (1, .int u1), (2, .int u2), (3, .int u3), (4, .int u4)] := hl
    show W _ _ _ _ _ _ _ _ _ _ _ _ _ _ _ (F0 m 12 ls [.ref q7])
    refine lv_ifnull hx hb dX10_bridge_12 ?_
    refine lv_iload_n hx hb dX10_bridge_15 rfl (lv_at hl 3 rfl) ?_
    refine k_i (r_S C h hl (As := [.int u2]) (rest := []) (s_X10_isLength l D G b0 τ f t u2 hu2) mk_X10_isLength w_653 w_654 w_655 ⟨Nat.le_of_ble_eq_true rfl, Nat.le_of_ble_eq_true rfl⟩ rfl (Nat.le_of_ble_eq_true rfl) ⟨Nat.le_of_ble_eq_true rfl, Nat.le_of_ble_eq_true rfl⟩ rfl dX10_bridge_16) h (fun r8 f9 H locs p10 h => ?_)
    obtain ⟨ir8, tf9, ogf9, cnr8⟩ := p10
    have egf9 := Fr.nil2 ogf9
    subst egf9
    refine lv_if_eq (tgt := 31) hx hb dX10_bridge_19 (by decide) (fun c11 => ?_) (fun c11 => ?_)
    · have c12 : r8.toInt = 0 := congrArg Int32.toInt c11
      have i13 : iv r8 0 0 := iv_Q c12 ir8 (iv_k (x := 0) (k := 0) rfl) (by decide)
      refine lv_iconst (v := -1) hx hb dX10_bridge_31 (by decide) ?_
      exact u_iret C h hr hQ (⟨⟨by decide, by decide⟩, t, o, hGJ⟩) (Nat.le_of_ble_eq_true rfl) (Nat.le_of_ble_eq_true rfl) dX10_bridge_32
    · have c14 : r8.toInt ≠ 0 := fun z_ => c11 (Int32.toInt_inj.mp z_)
      have i15 : iv r8 1 1 := iv_Nl c14 ir8 (by decide)
      have i16 := cnr8 c14
      refine lv_iload_n hx hb dX10_bridge_22 rfl (lv_at hl 4 rfl) ?_
      refine lv_iload hx hb dX10_bridge_23 (lv_at hl 5 rfl) ?_
      refine k_i (r_S C h hl (As := [.int u3, .int u4]) (rest := []) (s_X10_isNear l D G b0 τ f t u3 hu3 u4 hu4) mk_X10_isNear w_656 w_657 w_658 ⟨Nat.le_of_ble_eq_true rfl, Nat.le_of_ble_eq_true rfl⟩ rfl (Nat.le_of_ble_eq_true rfl) ⟨Nat.le_of_ble_eq_true rfl, Nat.le_of_ble_eq_true rfl⟩ rfl dX10_bridge_25) h (fun r17 f18 H locs p19 h => ?_)
      obtain ⟨ir17, tf18, ogf18, cnr17⟩ := p19
      have egf18 := Fr.nil2 ogf18
      subst egf18
      refine lv_if_ne (tgt := 33) hx hb dX10_bridge_28 (by decide) (fun c20 => ?_) (fun c20 => ?_)
      · have c21 : r17.toInt ≠ 0 := fun z_ => c20 (Int32.toInt_inj.mp z_)
        have i22 : iv r17 1 1 := iv_Nl c21 ir17 (by decide)
        obtain ⟨i23, i24⟩ := cnr17 c21
        refine lv_aload hx hb dX10_bridge_33 (lv_at hl 0 rfl) ?_
        obtain ⟨wqP35, twP35, kwP35⟩ := t_fref (tq := 2) (k := 0) t tq7 (by decide) wf_1 rfl
        obtain ⟨sxP35, isxP35, kxP35⟩ := t_fint (k := 1) t tq7 (by decide) wf_1 rfl
        obtain ⟨syP35, isyP35, kyP35⟩ := t_fint (k := 2) t tq7 (by decide) wf_1 rfl
        obtain ⟨wwP35, krP35, hwP35⟩ := ia_get t twP35 (by decide) wf_2
        refine t_getfd C h t tq7 (by decide) wf_1 (v := .int sxP35) kxP35 fl_X10_125 dX10_bridge_35 ?_
        refine lv_iload_n hx hb dX10_bridge_38 rfl (lv_at hl 4 rfl) ?_
        refine lv_icmp_gt (tgt := 52) hx hb dX10_bridge_39 (by decide) (fun c27 => ?_) (fun c27 => ?_)
        · have c28 : u3.toInt < sxP35.toInt := Int32.lt_iff_toInt_lt.mp c27
          have i29 : iv u3 (-70) 8 := iv_Ll c28 i23 isxP35 (by decide)
          refine lv_iconst (v := 0) hx hb dX10_bridge_52 (by decide) ?_
          exact u_iret C h hr hQ (⟨⟨by decide, by decide⟩, t, o, hGJ⟩) (Nat.le_of_ble_eq_true rfl) (Nat.le_of_ble_eq_true rfl) dX10_bridge_53
        · have c30 : sxP35.toInt ≤ u3.toInt := Int32.le_iff_toInt_le.mp (iv_nlt c27)
          have i31 : iv u3 0 70 := iv_Er c30 isxP35 i23 (by decide)
          refine lv_aload hx hb dX10_bridge_42 (lv_at hl 0 rfl) ?_
          refine t_getfd C h t tq7 (by decide) wf_1 (v := .int syP35) kyP35 fl_X10_120 dX10_bridge_44 ?_
          refine lv_iload hx hb dX10_bridge_47 (lv_at hl 5 rfl) ?_
          refine lv_icmp_le (tgt := 54) hx hb dX10_bridge_49 (by decide) (fun c32 => ?_) (fun c32 => ?_)
          · have c33 : syP35.toInt ≤ u4.toInt := Int32.le_iff_toInt_le.mp c32
            have i34 : iv u4 0 70 := iv_Er c33 isyP35 i24 (by decide)
            refine lv_aload_n hx hb dX10_bridge_54 rfl (lv_at hl 1 rfl) ?_
            refine t_getfd C h t hu0 (by decide) wf_10 (v := .ref gq) kq2 fl_X10_26 dX10_bridge_55 ?_
            refine lv_aload hx hb dX10_bridge_58 (lv_at hl 0 rfl) ?_
            refine lv_iconst (v := 0) hx hb dX10_bridge_60 (by decide) ?_
            refine lv_iconst (v := 0) hx hb dX10_bridge_61 (by decide) ?_
            obtain ⟨_, r37⟩ := t_rec t hgq (by decide) wf_20
            refine k_v (r_V C h hl (As := [.ref q7, .int 0, .int 0]) (rest := []) (s_X2_open l D G b0 τ f t gq hgq q7 tq7 0 (iv_w (iv_k (x := 0) (k := 0) rfl) (by decide)) 0 (iv_w (iv_k (x := 0) (k := 0) rfl) (by decide)) wqP35 twP35 kwP35 sxP35 isxP35 kxP35 syP35 isyP35 kyP35 rq mq hGJ wwP35 krP35 (row10 wwP35 sxP35 syP35) 0 (row10_in hwP35)) r37 (Cn := RX2) (T := TX2) (N := 11) rfl rfl mk_X2_open w_762 w_664 w_665 w_666 ⟨Nat.le_of_ble_eq_true rfl, Nat.le_of_ble_eq_true rfl⟩ rfl (Nat.le_of_ble_eq_true rfl) ⟨Nat.le_of_ble_eq_true rfl, Nat.le_of_ble_eq_true rfl⟩ rfl dX10_bridge_62) h (fun f39 H locs p40 h => ?_)
            have n41 : (0 : Int32).toInt = 0 := rfl
            have n42 : (0 : Int32).toInt = 0 := rfl
            obtain ⟨tf39, ogf39, x0r38, gjf39⟩ := p40
            have of39 : Fr [20, 21, 22, 23, 24, 25, 20001, 20002, 20007, 20008, 20009, 20010, 20011, 22001, 22002, 22003, 22004, 23001, 23002, 23003, 23004] τ f f39 := Fr.tr o ogf39 (by decide) (by decide)
            have k43 := atp.fr kq2 ogf39 hu0 (by decide)
            have k44 := atp.fr kwP35 ogf39 tq7 (by decide)
            have k45 := atp.fr krP35 ogf39 twP35 (by decide)
            have k46 := atp.fr kxP35 ogf39 tq7 (by decide)
            have k47 := atp.fr kyP35 ogf39 tq7 (by decide)
            refine lv_aload_n hx hb dX10_bridge_65 rfl (lv_at hl 1 rfl) ?_
            refine t_getfd C h tf39 hu0 (by decide) wf_10 (v := .ref gq) k43 fl_X10_26 dX10_bridge_66 ?_
            refine lv_iload_n hx hb dX10_bridge_69 rfl (lv_at hl 4 rfl) ?_
            refine lv_iload hx hb dX10_bridge_70 (lv_at hl 5 rfl) ?_
            obtain ⟨_, r48⟩ := t_rec tf39 hgq (by decide) wf_20
            refine k_v (r_V C h hl (As := [.int u3, .int u4]) (rest := []) (s_X2_close l D G b0 τ f39 tf39 gq hgq u3 i31 u4 i34 rq mq (row10 wwP35 sxP35 syP35) 0 (fun x_ y_ => decide (insd (0 : Int32).toInt x_ y_)) (0 : Int32).toInt x0r38 (by rw [← (row10_in hwP35).2.1.1]; omega) (by rw [← (row10_in hwP35).2.1.2]; omega)) r48 (Cn := RX2) (T := TX2) (N := 11) rfl rfl mk_X2_close w_763 w_764 w_765 w_766 ⟨Nat.le_of_ble_eq_true rfl, Nat.le_of_ble_eq_true rfl⟩ rfl (Nat.le_of_ble_eq_true rfl) ⟨Nat.le_of_ble_eq_true rfl, Nat.le_of_ble_eq_true rfl⟩ rfl dX10_bridge_72) h (fun f50 H locs p51 h => ?_)
            obtain ⟨tf50, ogf50, x0r49⟩ := p51
            have of50 : Fr [20, 21, 22, 23, 24, 25, 20001, 20002, 20007, 20008, 20009, 20010, 20011, 22001, 22002, 22003, 22004, 23001, 23002, 23003, 23004] τ f f50 := Fr.tr of39 ogf50 (by decide) (by decide)
            have k52 := atp.fr k43 ogf50 hu0 (by decide)
            have k53 := atp.fr k44 ogf50 tq7 (by decide)
            have k54 := atp.fr k45 ogf50 twP35 (by decide)
            have k55 := atp.fr k46 ogf50 tq7 (by decide)
            have k56 := atp.fr k47 ogf50 tq7 (by decide)
            refine lv_aload_n hx hb dX10_bridge_75 rfl (lv_at hl 1 rfl) ?_
            refine t_getfd C h tf50 hu0 (by decide) wf_10 (v := .ref gq) k52 fl_X10_26 dX10_bridge_76 ?_
            refine lv_iload_n hx hb dX10_bridge_79 rfl (lv_at hl 3 rfl) ?_
            obtain ⟨_, r57⟩ := t_rec tf50 hgq (by decide) wf_20
            refine k_v (r_V C h hl (As := [.int u2]) (rest := []) (s_X2_advance l D G b0 τ f50 tf50 gq hgq u2 i16 rq mq (row10 wwP35 sxP35 syP35) 0 (fun x_ y_ => (fun x_ y_ => decide (insd (0 : Int32).toInt x_ y_)) x_ y_ && (decide (x_ ≤ (u3 : Int32).toInt) && decide (y_ ≤ (u4 : Int32).toInt))) (0 : Int32).toInt 0 x0r49 (by omega)) r57 (Cn := RX2) (T := TX2) (N := 11) rfl rfl mk_X2_advance w_767 w_688 w_689 w_690 ⟨Nat.le_of_ble_eq_true rfl, Nat.le_of_ble_eq_true rfl⟩ rfl (Nat.le_of_ble_eq_true rfl) ⟨Nat.le_of_ble_eq_true rfl, Nat.le_of_ble_eq_true rfl⟩ rfl dX10_bridge_80) h (fun f59 H locs p60 h => ?_)
            obtain ⟨tf59, ogf59, x0r58⟩ := p60
            have of59 : Fr [20, 21, 22, 23, 24, 25, 20001, 20002, 20007, 20008, 20009, 20010, 20011, 22001, 22002, 22003, 22004, 23001, 23002, 23003, 23004] τ f f59 := Fr.tr of50 ogf59 (by decide) (by decide)
            have k61 := atp.fr k52 ogf59 hu0 (by decide)
            have k62 := atp.fr k53 ogf59 tq7 (by decide)
            have k63 := atp.fr k54 ogf59 twP35 (by decide)
            have k64 := atp.fr k55 ogf59 tq7 (by decide)
            have k65 := atp.fr k56 ogf59 tq7 (by decide)
            refine lv_aload_n hx hb dX10_bridge_83 rfl (lv_at hl 1 rfl) ?_
            refine t_getfd C h tf59 hu0 (by decide) wf_10 (v := .ref gq) k61 fl_X10_26 dX10_bridge_84 ?_
            refine lv_iload_n hx hb dX10_bridge_87 rfl (lv_at hl 4 rfl) ?_
            refine lv_iload hx hb dX10_bridge_88 (lv_at hl 5 rfl) ?_
            obtain ⟨_, r66⟩ := t_rec tf59 hgq (by decide) wf_20
            refine k_l (r_V C h hl (As := [.int u3, .int u4]) (rest := []) (s_X2_seen l D G b0 τ f59 tf59 gq hgq u3 (iv_w i31 (by decide)) u4 (iv_w i34 (by decide)) rq mq (GS.gj x0r58)) r66 (Cn := RX2) (T := TX2) (N := 11) rfl rfl mk_X2_seen w_709 w_710 w_711 w_712 ⟨Nat.le_of_ble_eq_true rfl, Nat.le_of_ble_eq_true rfl⟩ rfl (Nat.le_of_ble_eq_true rfl) ⟨Nat.le_of_ble_eq_true rfl, Nat.le_of_ble_eq_true rfl⟩ rfl dX10_bridge_90) h (fun r67 f68 H locs p69 h => ?_)
            obtain ⟨tf68, ogf68⟩ := p69
            have egf68 := Fr.nil2 ogf68
            subst egf68
            refine lv_l2i hx hb dX10_bridge_93 rfl (i_top (iv_any _) (fun z70 ez70 iz70 => ?_))
            exact u_iret C h hr hQ (⟨iz70, tf59, of59, (GS.gj x0r58)⟩) (Nat.le_of_ble_eq_true rfl) (Nat.le_of_ble_eq_true rfl) dX10_bridge_94
          · have c35 : u4.toInt < syP35.toInt := Int32.lt_iff_toInt_lt.mp (iv_nle c32)
            have i36 : iv u4 (-70) 8 := iv_Ll c35 i24 isyP35 (by decide)
            refine lv_iconst (v := 0) hx hb dX10_bridge_52 (by decide) ?_
            exact u_iret C h hr hQ (⟨⟨by decide, by decide⟩, t, o, hGJ⟩) (Nat.le_of_ble_eq_true rfl) (Nat.le_of_ble_eq_true rfl) dX10_bridge_53
      · have c25 : r17.toInt = 0 := congrArg Int32.toInt c20
        have i26 : iv r17 0 0 := iv_Q c25 ir17 (iv_k (x := 0) (k := 0) rfl) (by decide)
        refine lv_iconst (v := -1) hx hb dX10_bridge_31 (by decide) ?_
        exact u_iret C h hr hQ (⟨⟨by decide, by decide⟩, t, o, hGJ⟩) (Nat.le_of_ble_eq_true rfl) (Nat.le_of_ble_eq_true rfl) dX10_bridge_32
abbrev rm_s_X10_fewest : Room := { frames := 4, cells := 0, slots := 0, locals := 88 }
set_option maxRecDepth 100000 in
set_option maxHeartbeats 4000000 in
theorem s_X10_fewest (l : Launch) (D : va_G) (G : Nat → Nat) (b0 : Nat) (τ : Nat → Nat) (f : hM) (t : TI G 9 τ f) (u0 : Nat) (hu0 : τ u0 = 10) (u1 : Int32) (hu1 : iv u1 (-2147483648) 2147483647) (u2 : Int32) (hu2 : iv u2 (-2147483648) 2147483647) (u3 : Int32) (hu3 : iv u3 (-2147483648) 2147483647) (gq rq mq : Nat) (hgq : τ gq = 20) (kq2 : atp f u0 (fd 2 (.ref gq))) (hGJ : GJ τ f gq rq mq) : mI l yX10_fewest cX10_fewest 6 (.int) rm_s_X10_fewest D G b0 f [.ref u0, .int u1, .int u2, .int u3] (fun r f1 => iv r (-1) 60 ∧ TI G 9 τ f1 ∧ Fr [20, 21, 22, 23, 24, 25, 20001, 20002, 20007, 20008, 20009, 20010, 20011, 22001, 22002, 22003, 22004, 23001, 23002, 23003, 23004] τ f f1 ∧ GJ τ f1 gq rq mq) := by
  refine met2 (own := RX10) (by decide) rfl (Nat.le_of_ble_eq_true rfl) ?_
  intro p e s m args below meth c ls Q hQ C hr hini hl h
  have hl : lv_has ls 6 [(0, .ref u0), (1, .int u1), (2, .int u2), (3, .int u3)] := hl
  obtain ⟨hx, hb, hml, hown, hts, hE0, hlk⟩ := id C
  have o := Fr.rf [20, 21, 22, 23, 24, 25, 20001, 20002, 20007, 20008, 20009, 20010, 20011, 22001, 22002, 22003, 22004, 23001, 23002, 23003, 23004] τ f
  have L39 : ∀ (n39 : Nat) (ls : Array Slot) (f_39 : hM) (H : Heap) (locs : List Loc) (v39_5 : Int32), 61 - v39_5.toInt < (n39 : Int) → lv_has ls 6 [(0, .ref u0), (2, .int u2), (3, .int u3), (5, .int v39_5)] → hw D b0 s.heap f_39 H locs → TI G 9 τ f_39 → Fr [20, 21, 22, 23, 24, 25, 20001, 20002, 20007, 20008, 20009, 20010, 20011, 22001, 22002, 22003, 22004, 23001, 23002, 23003, 23004] τ f f_39 → iv u2 (-70) 70 → iv u3 (-70) 70 → iv v39_5 0 61 → atp f_39 u0 (fd 2 (.ref gq)) → GJ τ f_39 gq rq mq → (∃ (vb : Nat → Int32) (vu : Int) (P : Int → Int → Bool) (md : Int), GS G τ f_39 gq rq mq vb vu P md (Int.toNat (v39_5.toInt - 1))) → W p l e rm_s_X10_fewest s m args below meth c H locs 0 0 Q (F0 m 39 ls []) := by
    intro n39
    induction n39 with
    | zero => intro ls f_39 H locs v39_5 hm39 hl h t_39 o_39 jv39_2 jv39_3 iv39_5 k39_u0_2 k39_gq_GJ hv39_0; exact absurd hm39 (by omega)
    | succ n39 ih39 =>
      intro ls f_39 H locs v39_5 hm39 hl h t_39 o_39 jv39_2 jv39_3 iv39_5 k39_u0_2 k39_gq_GJ hv39_0
      refine lv_iload hx hb dX10_fewest_39 (lv_at hl 3 rfl) ?_
      refine lv_bipush (v := 60) hx hb dX10_fewest_41 (by decide) ?_
      refine lv_icmp_gt (tgt := 82) hx hb dX10_fewest_43 (by decide) (fun c1 => ?_) (fun c1 => ?_)
      · have c2 : 60 < v39_5.toInt := Int32.lt_iff_toInt_lt.mp c1
        have i3 : iv v39_5 61 61 := iv_Lr c2 (iv_k (x := 60) (k := 60) rfl) iv39_5 (by decide)
        refine lv_iconst (v := -1) hx hb dX10_fewest_82 (by decide) ?_
        exact u_iret C h hr hQ (⟨⟨by decide, by decide⟩, t_39, o_39, k39_gq_GJ⟩) (Nat.le_of_ble_eq_true rfl) (Nat.le_of_ble_eq_true rfl) dX10_fewest_83
      · have c4 : v39_5.toInt ≤ 60 := Int32.le_iff_toInt_le.mp (iv_nlt c1)
        have i5 : iv v39_5 0 60 := iv_El c4 iv39_5 (iv_k (x := 60) (k := 60) rfl) (by decide)
        obtain ⟨vb_, vu_, P_, md_, hgs_⟩ := hv39_0
        refine lv_iload hx hb dX10_fewest_46 (lv_at hl 3 rfl) ?_
        refine lv_if_le (tgt := 59) hx hb dX10_fewest_48 (by decide) (fun c6 => ?_) (fun c6 => ?_)
        · have c7 : v39_5.toInt ≤ 0 := Int32.le_iff_toInt_le.mp c6
          have i8 : iv v39_5 0 0 := iv_El c7 i5 (iv_k (x := 0) (k := 0) rfl) (by decide)
          refine lv_aload_n hx hb dX10_fewest_59 rfl (lv_at hl 0 rfl) ?_
          refine t_getfd C h t_39 hu0 (by decide) wf_10 (v := .ref gq) k39_u0_2 fl_X10_26 dX10_fewest_60 ?_
          refine lv_iload_n hx hb dX10_fewest_63 rfl (lv_at hl 1 rfl) ?_
          refine lv_iload_n hx hb dX10_fewest_64 rfl (lv_at hl 2 rfl) ?_
          obtain ⟨_, r11⟩ := t_rec t_39 hgq (by decide) wf_20
          refine k_l (r_V C h hl (As := [.int u2, .int u3]) (rest := []) (s_X2_seen l D G b0 τ f_39 t_39 gq hgq u2 (iv_w jv39_2 (by decide)) u3 (iv_w jv39_3 (by decide)) rq mq k39_gq_GJ) r11 (Cn := RX2) (T := TX2) (N := 11) rfl rfl mk_X2_seen w_709 w_710 w_711 w_712 ⟨Nat.le_of_ble_eq_true rfl, Nat.le_of_ble_eq_true rfl⟩ rfl (Nat.le_of_ble_eq_true rfl) ⟨Nat.le_of_ble_eq_true rfl, Nat.le_of_ble_eq_true rfl⟩ rfl dX10_fewest_65) h (fun r12 f13 H locs p14 h => ?_)
          obtain ⟨tf13, ogf13⟩ := p14
          have egf13 := Fr.nil2 ogf13
          subst egf13
          refine lv_lconst (v := 0) hx hb dX10_fewest_68 (by decide) ?_
          refine W.lcmp hx hb dX10_fewest_69 (i_topc (fun z15 ez15 mz15 iz15 => ?_))
          refine lv_if_eq (tgt := 76) hx hb dX10_fewest_70 (by decide) (fun c16 => ?_) (fun c16 => ?_)
          · have c17 : z15.toInt = 0 := congrArg Int32.toInt c16
            have i18 : iv z15 0 0 := iv_Q c17 iz15 (iv_k (x := 0) (k := 0) rfl) (by decide)
            refine i_inc hx hb dX10_fewest_76 hl (k := 3) rfl i8 rfl (lo := 1) (hi := 1) (by decide) (by decide) (lv' := fun v => [(5, .int v), (0, .ref u0), (2, .int u2), (3, .int u3)]) (fun _ => rfl) (fun z20 ls ez20 mz20 iz20 hl => ?_)
            refine lv_goto (tgt := 39) hx hb dX10_fewest_79 (by decide) ?_
            exact ih39 ls f_39 H locs z20 (show 61 - z20.toInt < _ by omega) (lv_cons hl 1 rfl (lv_cons hl 2 rfl (lv_cons hl 3 rfl (lv_cons hl 0 rfl (lv_nil hl))))) h t_39 o_39 jv39_2 jv39_3 (iv_w iz20 (by decide)) k39_u0_2 k39_gq_GJ (show ∃ (vb : Nat → Int32) (vu : Int) (P : Int → Int → Bool) (md : Int), GS G τ f_39 gq rq mq vb vu P md (Int.toNat (z20.toInt - 1)) from ⟨_, _, _, _, (by rw [show Int.toNat (z20.toInt - 1) = (Int.toNat (v39_5.toInt - 1)) from by have n1_ : (1 : Int32).toInt = 1 := rfl; omega]; exact hgs_)⟩)
          · have c19 : z15.toInt ≠ 0 := fun z_ => c16 (Int32.toInt_inj.mp z_)
            refine lv_iload hx hb dX10_fewest_73 (lv_at hl 3 rfl) ?_
            exact u_iret C h hr hQ (⟨(iv_w i8 (by decide)), t_39, o_39, k39_gq_GJ⟩) (Nat.le_of_ble_eq_true rfl) (Nat.le_of_ble_eq_true rfl) dX10_fewest_75
        · have c9 : 0 < v39_5.toInt := Int32.lt_iff_toInt_lt.mp (iv_nle c6)
          have i10 : iv v39_5 1 60 := iv_Lr c9 (iv_k (x := 0) (k := 0) rfl) i5 (by decide)
          refine lv_aload_n hx hb dX10_fewest_51 rfl (lv_at hl 0 rfl) ?_
          refine t_getfd C h t_39 hu0 (by decide) wf_10 (v := .ref gq) k39_u0_2 fl_X10_26 dX10_fewest_52 ?_
          refine lv_iconst (v := 1) hx hb dX10_fewest_55 (by decide) ?_
          obtain ⟨_, r21⟩ := t_rec t_39 hgq (by decide) wf_20
          refine k_v (r_V C h hl (As := [.int 1]) (rest := []) (s_X2_advance l D G b0 τ f_39 t_39 gq hgq 1 (iv_w (iv_k (x := 1) (k := 1) rfl) (by decide)) rq mq vb_ vu_ P_ md_ (Int.toNat (v39_5.toInt - 1)) hgs_ (by have n_ : (1 : Int32).toInt = 1 := rfl; omega)) r21 (Cn := RX2) (T := TX2) (N := 11) rfl rfl mk_X2_advance w_767 w_688 w_689 w_690 ⟨Nat.le_of_ble_eq_true rfl, Nat.le_of_ble_eq_true rfl⟩ rfl (Nat.le_of_ble_eq_true rfl) ⟨Nat.le_of_ble_eq_true rfl, Nat.le_of_ble_eq_true rfl⟩ rfl dX10_fewest_56) h (fun f23 H locs p24 h => ?_)
          have n25 : (1 : Int32).toInt = 1 := rfl
          obtain ⟨tf23, ogf23, x0r22⟩ := p24
          have of23 : Fr [20, 21, 22, 23, 24, 25, 20001, 20002, 20007, 20008, 20009, 20010, 20011, 22001, 22002, 22003, 22004, 23001, 23002, 23003, 23004] τ f f23 := Fr.tr o_39 ogf23 (by decide) (by decide)
          have k26 := atp.fr k39_u0_2 ogf23 hu0 (by decide)
          refine lv_aload_n hx hb dX10_fewest_59 rfl (lv_at hl 0 rfl) ?_
          refine t_getfd C h tf23 hu0 (by decide) wf_10 (v := .ref gq) k26 fl_X10_26 dX10_fewest_60 ?_
          refine lv_iload_n hx hb dX10_fewest_63 rfl (lv_at hl 1 rfl) ?_
          refine lv_iload_n hx hb dX10_fewest_64 rfl (lv_at hl 2 rfl) ?_
          obtain ⟨_, r27⟩ := t_rec tf23 hgq (by decide) wf_20
          refine k_l (r_V C h hl (As := [.int u2, .int u3]) (rest := []) (s_X2_seen l D G b0 τ f23 tf23 gq hgq u2 (iv_w jv39_2 (by decide)) u3 (iv_w jv39_3 (by decide)) rq mq (GS.gj x0r22)) r27 (Cn := RX2) (T := TX2) (N := 11) rfl rfl mk_X2_seen w_709 w_710 w_711 w_712 ⟨Nat.le_of_ble_eq_true rfl, Nat.le_of_ble_eq_true rfl⟩ rfl (Nat.le_of_ble_eq_true rfl) ⟨Nat.le_of_ble_eq_true rfl, Nat.le_of_ble_eq_true rfl⟩ rfl dX10_fewest_65) h (fun r28 f29 H locs p30 h => ?_)
          obtain ⟨tf29, ogf29⟩ := p30
          have egf29 := Fr.nil2 ogf29
          subst egf29
          refine lv_lconst (v := 0) hx hb dX10_fewest_68 (by decide) ?_
          refine W.lcmp hx hb dX10_fewest_69 (i_topc (fun z31 ez31 mz31 iz31 => ?_))
          refine lv_if_eq (tgt := 76) hx hb dX10_fewest_70 (by decide) (fun c32 => ?_) (fun c32 => ?_)
          · have c33 : z31.toInt = 0 := congrArg Int32.toInt c32
            have i34 : iv z31 0 0 := iv_Q c33 iz31 (iv_k (x := 0) (k := 0) rfl) (by decide)
            refine i_inc hx hb dX10_fewest_76 hl (k := 3) rfl i10 rfl (lo := 2) (hi := 61) (by decide) (by decide) (lv' := fun v => [(5, .int v), (0, .ref u0), (2, .int u2), (3, .int u3)]) (fun _ => rfl) (fun z36 ls ez36 mz36 iz36 hl => ?_)
            refine lv_goto (tgt := 39) hx hb dX10_fewest_79 (by decide) ?_
            exact ih39 ls f23 H locs z36 (show 61 - z36.toInt < _ by omega) (lv_cons hl 1 rfl (lv_cons hl 2 rfl (lv_cons hl 3 rfl (lv_cons hl 0 rfl (lv_nil hl))))) h tf23 of23 jv39_2 jv39_3 (iv_w iz36 (by decide)) k26 (GS.gj x0r22) (show ∃ (vb : Nat → Int32) (vu : Int) (P : Int → Int → Bool) (md : Int), GS G τ f23 gq rq mq vb vu P md (Int.toNat (z36.toInt - 1)) from ⟨_, _, _, _, (by rw [show Int.toNat (z36.toInt - 1) = ((Int.toNat (v39_5.toInt - 1)) + (1 : Int32).toInt.toNat) from by have n1_ : (1 : Int32).toInt = 1 := rfl; omega]; exact x0r22)⟩)
          · have c35 : z31.toInt ≠ 0 := fun z_ => c32 (Int32.toInt_inj.mp z_)
            refine lv_iload hx hb dX10_fewest_73 (lv_at hl 3 rfl) ?_
            exact u_iret C h hr hQ (⟨(iv_w i10 (by decide)), tf23, of23, (GS.gj x0r22)⟩) (Nat.le_of_ble_eq_true rfl) (Nat.le_of_ble_eq_true rfl) dX10_fewest_75
  refine lv_aload_n hx hb dX10_fewest_0 rfl (lv_at hl 0 rfl) ?_
  refine t_getr (tq := 12) C h t hu0 (by decide) wf_10 rfl fl_X10_19 dX10_fewest_1 (fun q37 tq37 => ?_)
  refine lv_iload_n hx hb dX10_fewest_4 rfl (lv_at hl 1 rfl) ?_
  obtain ⟨_, r38⟩ := t_rec t tq37 (by decide) wf_12
  refine k_q (r_V C h hl (As := [.int u1]) (rest := []) (s_X0_find l D G b0 τ f t q37 tq37 u1 hu1) r38 (Cn := RX0) (T := TX0) (N := 6) rfl rfl mk_X0_find w_594 w_595 w_596 w_597 ⟨Nat.le_of_ble_eq_true rfl, Nat.le_of_ble_eq_true rfl⟩ rfl (Nat.le_of_ble_eq_true rfl) ⟨Nat.le_of_ble_eq_true rfl, Nat.le_of_ble_eq_true rfl⟩ rfl dX10_fewest_5) h (fun r39 f40 H locs p41 h => ?_)
  obtain ⟨qr39, tf40, ogf40⟩ := p41
  have egf40 := Fr.nil2 ogf40
  subst egf40
  have tr39 := qr39
  refine lv_astoreO (lv' := [(4, va_rf r39), (0, .ref u0), (1, .int u1), (2, .int u2), (3, .int u3)]) hx hb dX10_fewest_8 hl (by decide) rfl (fun ls hl => ?_)
  refine lv_aloadO hx hb dX10_fewest_10 (lv_at hl 0 rfl) ?_
  rcases va_rfc r39 with eq43 | ⟨q43, eq43⟩
  · subst eq43
    have hl : lv_has ls 6 [(4, .null), (0, .ref u0), (1, .int u1), (2, .int u2), (3, .int u3)] := hl
    show W _ _ _ _ _ _ _ _ _ _ _ _ _ _ _ (F0 m 12 ls [.null])
    refine lv_ifnullN (tgt := 23) hx hb dX10_fewest_12 (by decide) ?_
    refine lv_iconst (v := -1) hx hb dX10_fewest_23 (by decide) ?_
    exact u_iret C h hr hQ (⟨⟨by decide, by decide⟩, t, o, hGJ⟩) (Nat.le_of_ble_eq_true rfl) (Nat.le_of_ble_eq_true rfl) dX10_fewest_24
  · subst eq43
    have tq43 : τ q43 = 1 := tr39 _ rfl
    have hl : lv_has ls 6 [(4, .ref q43), (0, .ref u0), (1, .int u1), (2, .int u2), (3, .int u3)] := hl
    show W _ _ _ _ _ _ _ _ _ _ _ _ _ _ _ (F0 m 12 ls [.ref q43])
    refine lv_ifnull hx hb dX10_fewest_12 ?_
    refine lv_iload_n hx hb dX10_fewest_15 rfl (lv_at hl 3 rfl) ?_
    refine lv_iload_n hx hb dX10_fewest_16 rfl (lv_at hl 4 rfl) ?_
    refine k_i (r_S C h hl (As := [.int u2, .int u3]) (rest := []) (s_X10_isNear l D G b0 τ f t u2 hu2 u3 hu3) mk_X10_isNear w_656 w_657 w_658 ⟨Nat.le_of_ble_eq_true rfl, Nat.le_of_ble_eq_true rfl⟩ rfl (Nat.le_of_ble_eq_true rfl) ⟨Nat.le_of_ble_eq_true rfl, Nat.le_of_ble_eq_true rfl⟩ rfl dX10_fewest_17) h (fun r44 f45 H locs p46 h => ?_)
    obtain ⟨ir44, tf45, ogf45, cnr44⟩ := p46
    have egf45 := Fr.nil2 ogf45
    subst egf45
    refine lv_if_ne (tgt := 25) hx hb dX10_fewest_20 (by decide) (fun c47 => ?_) (fun c47 => ?_)
    · have c48 : r44.toInt ≠ 0 := fun z_ => c47 (Int32.toInt_inj.mp z_)
      have i49 : iv r44 1 1 := iv_Nl c48 ir44 (by decide)
      obtain ⟨i50, i51⟩ := cnr44 c48
      refine lv_aload_n hx hb dX10_fewest_25 rfl (lv_at hl 1 rfl) ?_
      refine t_getfd C h t hu0 (by decide) wf_10 (v := .ref gq) kq2 fl_X10_26 dX10_fewest_26 ?_
      refine lv_aload hx hb dX10_fewest_29 (lv_at hl 0 rfl) ?_
      refine lv_iconst (v := 3) hx hb dX10_fewest_31 (by decide) ?_
      refine lv_iconst (v := 0) hx hb dX10_fewest_32 (by decide) ?_
      obtain ⟨wqP33, twP33, kwP33⟩ := t_fref (tq := 2) (k := 0) t tq43 (by decide) wf_1 rfl
      obtain ⟨sxP33, isxP33, kxP33⟩ := t_fint (k := 1) t tq43 (by decide) wf_1 rfl
      obtain ⟨syP33, isyP33, kyP33⟩ := t_fint (k := 2) t tq43 (by decide) wf_1 rfl
      obtain ⟨wwP33, krP33, hwP33⟩ := ia_get t twP33 (by decide) wf_2
      obtain ⟨_, r54⟩ := t_rec t hgq (by decide) wf_20
      refine k_v (r_V C h hl (As := [.ref q43, .int 3, .int 0]) (rest := []) (s_X2_open l D G b0 τ f t gq hgq q43 tq43 3 (iv_w (iv_k (x := 3) (k := 3) rfl) (by decide)) 0 (iv_w (iv_k (x := 0) (k := 0) rfl) (by decide)) wqP33 twP33 kwP33 sxP33 isxP33 kxP33 syP33 isyP33 kyP33 rq mq hGJ wwP33 krP33 (row10 wwP33 sxP33 syP33) 0 (row10_in hwP33)) r54 (Cn := RX2) (T := TX2) (N := 11) rfl rfl mk_X2_open w_762 w_664 w_665 w_666 ⟨Nat.le_of_ble_eq_true rfl, Nat.le_of_ble_eq_true rfl⟩ rfl (Nat.le_of_ble_eq_true rfl) ⟨Nat.le_of_ble_eq_true rfl, Nat.le_of_ble_eq_true rfl⟩ rfl dX10_fewest_33) h (fun f56 H locs p57 h => ?_)
      have n58 : (3 : Int32).toInt = 3 := rfl
      have n59 : (0 : Int32).toInt = 0 := rfl
      obtain ⟨tf56, ogf56, x0r55, gjf56⟩ := p57
      have of56 : Fr [20, 21, 22, 23, 24, 25, 20001, 20002, 20007, 20008, 20009, 20010, 20011, 22001, 22002, 22003, 22004, 23001, 23002, 23003, 23004] τ f f56 := Fr.tr o ogf56 (by decide) (by decide)
      have k60 := atp.fr kq2 ogf56 hu0 (by decide)
      have k61 := atp.fr kwP33 ogf56 tq43 (by decide)
      have k62 := atp.fr krP33 ogf56 twP33 (by decide)
      have k63 := atp.fr kxP33 ogf56 tq43 (by decide)
      have k64 := atp.fr kyP33 ogf56 tq43 (by decide)
      refine lv_iconst (v := 0) hx hb dX10_fewest_36 (by decide) ?_
      refine lv_istore (lv' := [(5, .int 0), (4, .ref q43), (0, .ref u0), (1, .int u1), (2, .int u2), (3, .int u3)]) hx hb dX10_fewest_37 hl (by decide) rfl (fun ls hl => ?_)
      exact L39 62 ls f56 H locs 0 (by decide) (lv_cons hl 2 rfl (lv_cons hl 4 rfl (lv_cons hl 5 rfl (lv_cons hl 0 rfl (lv_nil hl))))) h tf56 of56 i50 i51 ⟨by decide, by decide⟩ k60 gjf56 (show ∃ (vb : Nat → Int32) (vu : Int) (P : Int → Int → Bool) (md : Int), GS G τ f56 gq rq mq vb vu P md (Int.toNat (0 - 1)) from ⟨_, _, _, _, (by rw [show Int.toNat (0 - 1) = 0 from by have n1_ : (1 : Int32).toInt = 1 := rfl; omega]; exact x0r55)⟩)
    · have c52 : r44.toInt = 0 := congrArg Int32.toInt c47
      have i53 : iv r44 0 0 := iv_Q c52 ir44 (iv_k (x := 0) (k := 0) rfl) (by decide)
      refine lv_iconst (v := -1) hx hb dX10_fewest_23 (by decide) ?_
      exact u_iret C h hr hQ (⟨⟨by decide, by decide⟩, t, o, hGJ⟩) (Nat.le_of_ble_eq_true rfl) (Nat.le_of_ble_eq_true rfl) dX10_fewest_24
abbrev rm_s_X10_period : Room := { frames := 4, cells := 0, slots := 0, locals := 88 }
set_option maxRecDepth 100000 in
set_option maxHeartbeats 4000000 in
theorem s_X10_period (l : Launch) (D : va_G) (G : Nat → Nat) (b0 : Nat) (τ : Nat → Nat) (f : hM) (t : TI G 9 τ f) (u0 : Nat) (hu0 : τ u0 = 10) (u1 : Int32) (hu1 : iv u1 (-2147483648) 2147483647) (gq rq mq : Nat) (hgq : τ gq = 20) (kq2 : atp f u0 (fd 2 (.ref gq))) (hGJ : GJ τ f gq rq mq) : mI l yX10_period cX10_period 5 (.int) rm_s_X10_period D G b0 f [.ref u0, .int u1] (fun r f1 => iv r (-2147483648) 2147483647 ∧ TI G 9 τ f1 ∧ Fr [20, 21, 22, 23, 24, 25, 20001, 20002, 20007, 20008, 20009, 20010, 20011, 22001, 22002, 22003, 22004, 23001, 23002, 23003, 23004] τ f f1 ∧ GJ τ f1 gq rq mq) := by
  refine met2 (own := RX10) (by decide) rfl (Nat.le_of_ble_eq_true rfl) ?_
  intro p e s m args below meth c ls Q hQ C hr hini hl h
  have hl : lv_has ls 5 [(0, .ref u0), (1, .int u1)] := hl
  obtain ⟨hx, hb, hml, hown, hts, hE0, hlk⟩ := id C
  have o := Fr.rf [20, 21, 22, 23, 24, 25, 20001, 20002, 20007, 20008, 20009, 20010, 20011, 22001, 22002, 22003, 22004, 23001, 23002, 23003, 23004] τ f
  have L30 : ∀ (n30 : Nat) (ls : Array Slot) (f_30 : hM) (H : Heap) (locs : List Loc) (v30_2 : Nat) (v30_3 : Int32) (v30_4 : Int32), 61 - v30_4.toInt < (n30 : Int) → lv_has ls 5 [(0, .ref u0), (2, .ref v30_2), (3, .int v30_3), (4, .int v30_4)] → hw D b0 s.heap f_30 H locs → TI G 9 τ f_30 → Fr [20, 21, 22, 23, 24, 25, 20001, 20002, 20007, 20008, 20009, 20010, 20011, 22001, 22002, 22003, 22004, 23001, 23002, 23003, 23004] τ f f_30 → τ v30_2 = 1 → iv v30_3 (-2147483648) 2147483647 → iv v30_4 1 61 → atp f_30 u0 (fd 2 (.ref gq)) → GJ τ f_30 gq rq mq → (∃ (vb : Nat → Int32) (vu : Int) (P : Int → Int → Bool) (md : Int), GS G τ f_30 gq rq mq vb vu P md (Int.toNat (v30_4.toInt - 1))) → W p l e rm_s_X10_period s m args below meth c H locs 0 0 Q (F0 m 30 ls []) := by
    intro n30
    induction n30 with
    | zero => intro ls f_30 H locs v30_2 v30_3 v30_4 hm30 hl h t_30 o_30 tv30_2 iv30_3 iv30_4 k30_u0_2 k30_gq_GJ hv30_0; exact absurd hm30 (by omega)
    | succ n30 ih30 =>
      intro ls f_30 H locs v30_2 v30_3 v30_4 hm30 hl h t_30 o_30 tv30_2 iv30_3 iv30_4 k30_u0_2 k30_gq_GJ hv30_0
      refine lv_iload hx hb dX10_period_30 (lv_at hl 3 rfl) ?_
      refine lv_bipush (v := 60) hx hb dX10_period_32 (by decide) ?_
      refine lv_icmp_gt (tgt := 78) hx hb dX10_period_34 (by decide) (fun c1 => ?_) (fun c1 => ?_)
      · have c2 : 60 < v30_4.toInt := Int32.lt_iff_toInt_lt.mp c1
        have i3 : iv v30_4 61 61 := iv_Lr c2 (iv_k (x := 60) (k := 60) rfl) iv30_4 (by decide)
        refine lv_iload_n hx hb dX10_period_78 rfl (lv_at hl 2 rfl) ?_
        exact u_iret C h hr hQ (⟨iv30_3, t_30, o_30, k30_gq_GJ⟩) (Nat.le_of_ble_eq_true rfl) (Nat.le_of_ble_eq_true rfl) dX10_period_79
      · have c4 : v30_4.toInt ≤ 60 := Int32.le_iff_toInt_le.mp (iv_nlt c1)
        have i5 : iv v30_4 1 60 := iv_El c4 iv30_4 (iv_k (x := 60) (k := 60) rfl) (by decide)
        obtain ⟨vb_, vu_, P_, md_, hgs_⟩ := hv30_0
        refine lv_aload_n hx hb dX10_period_37 rfl (lv_at hl 0 rfl) ?_
        refine t_getfd C h t_30 hu0 (by decide) wf_10 (v := .ref gq) k30_u0_2 fl_X10_26 dX10_period_38 ?_
        refine lv_iconst (v := 1) hx hb dX10_period_41 (by decide) ?_
        obtain ⟨_, r6⟩ := t_rec t_30 hgq (by decide) wf_20
        refine k_v (r_V C h hl (As := [.int 1]) (rest := []) (s_X2_advance l D G b0 τ f_30 t_30 gq hgq 1 (iv_w (iv_k (x := 1) (k := 1) rfl) (by decide)) rq mq vb_ vu_ P_ md_ (Int.toNat (v30_4.toInt - 1)) hgs_ (by have n_ : (1 : Int32).toInt = 1 := rfl; omega)) r6 (Cn := RX2) (T := TX2) (N := 11) rfl rfl mk_X2_advance w_767 w_688 w_689 w_690 ⟨Nat.le_of_ble_eq_true rfl, Nat.le_of_ble_eq_true rfl⟩ rfl (Nat.le_of_ble_eq_true rfl) ⟨Nat.le_of_ble_eq_true rfl, Nat.le_of_ble_eq_true rfl⟩ rfl dX10_period_42) h (fun f8 H locs p9 h => ?_)
        have n10 : (1 : Int32).toInt = 1 := rfl
        obtain ⟨tf8, ogf8, x0r7⟩ := p9
        have of8 : Fr [20, 21, 22, 23, 24, 25, 20001, 20002, 20007, 20008, 20009, 20010, 20011, 22001, 22002, 22003, 22004, 23001, 23002, 23003, 23004] τ f f8 := Fr.tr o_30 ogf8 (by decide) (by decide)
        have k11 := atp.fr k30_u0_2 ogf8 hu0 (by decide)
        refine lv_aload_n hx hb dX10_period_45 rfl (lv_at hl 0 rfl) ?_
        refine t_getfd C h tf8 hu0 (by decide) wf_10 (v := .ref gq) k11 fl_X10_26 dX10_period_46 ?_
        refine lv_aload_n hx hb dX10_period_49 rfl (lv_at hl 1 rfl) ?_
        refine t_geti C h tf8 tv30_2 (by decide) wf_1 rfl fl_X10_125 dX10_period_50 (fun z12 iz12 => ?_)
        refine lv_aload_n hx hb dX10_period_53 rfl (lv_at hl 1 rfl) ?_
        refine t_geti C h tf8 tv30_2 (by decide) wf_1 rfl fl_X10_120 dX10_period_54 (fun z13 iz13 => ?_)
        obtain ⟨_, r14⟩ := t_rec tf8 hgq (by decide) wf_20
        refine k_l (r_V C h hl (As := [.int z12, .int z13]) (rest := []) (s_X2_seen l D G b0 τ f8 tf8 gq hgq z12 (iv_w iz12 (by decide)) z13 (iv_w iz13 (by decide)) rq mq (GS.gj x0r7)) r14 (Cn := RX2) (T := TX2) (N := 11) rfl rfl mk_X2_seen w_709 w_710 w_711 w_712 ⟨Nat.le_of_ble_eq_true rfl, Nat.le_of_ble_eq_true rfl⟩ rfl (Nat.le_of_ble_eq_true rfl) ⟨Nat.le_of_ble_eq_true rfl, Nat.le_of_ble_eq_true rfl⟩ rfl dX10_period_57) h (fun r15 f16 H locs p17 h => ?_)
        obtain ⟨tf16, ogf16⟩ := p17
        have egf16 := Fr.nil2 ogf16
        subst egf16
        refine lv_lconst (v := 0) hx hb dX10_period_60 (by decide) ?_
        refine W.lcmp hx hb dX10_period_61 (i_topc (fun z18 ez18 mz18 iz18 => ?_))
        refine lv_if_eq (tgt := 72) hx hb dX10_period_62 (by decide) (fun c19 => ?_) (fun c19 => ?_)
        · have c20 : z18.toInt = 0 := congrArg Int32.toInt c19
          have i21 : iv z18 0 0 := iv_Q c20 iz18 (iv_k (x := 0) (k := 0) rfl) (by decide)
          refine i_inc hx hb dX10_period_72 hl (k := 3) rfl i5 rfl (lo := 2) (hi := 61) (by decide) (by decide) (lv' := fun v => [(4, .int v), (0, .ref u0), (2, .ref v30_2), (3, .int v30_3)]) (fun _ => rfl) (fun z23 ls ez23 mz23 iz23 hl => ?_)
          refine lv_goto (tgt := 30) hx hb dX10_period_75 (by decide) ?_
          exact ih30 ls f8 H locs v30_2 v30_3 z23 (show 61 - z23.toInt < _ by omega) (lv_cons hl 1 rfl (lv_cons hl 2 rfl (lv_cons hl 3 rfl (lv_cons hl 0 rfl (lv_nil hl))))) h tf8 of8 tv30_2 iv30_3 (iv_w iz23 (by decide)) k11 (GS.gj x0r7) (show ∃ (vb : Nat → Int32) (vu : Int) (P : Int → Int → Bool) (md : Int), GS G τ f8 gq rq mq vb vu P md (Int.toNat (z23.toInt - 1)) from ⟨_, _, _, _, (by rw [show Int.toNat (z23.toInt - 1) = ((Int.toNat (v30_4.toInt - 1)) + (1 : Int32).toInt.toNat) from by have n1_ : (1 : Int32).toInt = 1 := rfl; omega]; exact x0r7)⟩)
        · have c22 : z18.toInt ≠ 0 := fun z_ => c19 (Int32.toInt_inj.mp z_)
          refine lv_iload_n hx hb dX10_period_65 rfl (lv_at hl 2 rfl) ?_
          refine lv_iload hx hb dX10_period_66 (lv_at hl 3 rfl) ?_
          refine k_i (r_S C h hl (As := [.int v30_3, .int v30_4]) (rest := []) (s_X10_commonDivisor l D G b0 τ f8 tf8 v30_3 iv30_3 v30_4 (iv_w i5 (by decide))) mk_X10_commonDivisor w_921 w_922 w_923 ⟨Nat.le_of_ble_eq_true rfl, Nat.le_of_ble_eq_true rfl⟩ rfl (Nat.le_of_ble_eq_true rfl) ⟨Nat.le_of_ble_eq_true rfl, Nat.le_of_ble_eq_true rfl⟩ rfl dX10_period_68) h (fun r24 f25 H locs p26 h => ?_)
          obtain ⟨ir24, tf25, ogf25⟩ := p26
          have egf25 := Fr.nil2 ogf25
          subst egf25
          refine lv_istore_n (lv' := [(3, .int r24), (0, .ref u0), (2, .ref v30_2), (4, .int v30_4)]) hx hb dX10_period_71 rfl hl (by decide) rfl (fun ls hl => ?_)
          refine i_inc hx hb dX10_period_72 hl (k := 3) rfl i5 rfl (lo := 2) (hi := 61) (by decide) (by decide) (lv' := fun v => [(4, .int v), (3, .int r24), (0, .ref u0), (2, .ref v30_2)]) (fun _ => rfl) (fun z27 ls ez27 mz27 iz27 hl => ?_)
          refine lv_goto (tgt := 30) hx hb dX10_period_75 (by decide) ?_
          exact ih30 ls f8 H locs v30_2 r24 z27 (show 61 - z27.toInt < _ by omega) (lv_cons hl 2 rfl (lv_cons hl 3 rfl (lv_cons hl 1 rfl (lv_cons hl 0 rfl (lv_nil hl))))) h tf8 of8 tv30_2 ir24 (iv_w iz27 (by decide)) k11 (GS.gj x0r7) (show ∃ (vb : Nat → Int32) (vu : Int) (P : Int → Int → Bool) (md : Int), GS G τ f8 gq rq mq vb vu P md (Int.toNat (z27.toInt - 1)) from ⟨_, _, _, _, (by rw [show Int.toNat (z27.toInt - 1) = ((Int.toNat (v30_4.toInt - 1)) + (1 : Int32).toInt.toNat) from by have n1_ : (1 : Int32).toInt = 1 := rfl; omega]; exact x0r7)⟩)
  refine lv_aload_n hx hb dX10_period_0 rfl (lv_at hl 0 rfl) ?_
  refine t_getr (tq := 12) C h t hu0 (by decide) wf_10 rfl fl_X10_19 dX10_period_1 (fun q28 tq28 => ?_)
  refine lv_iload_n hx hb dX10_period_4 rfl (lv_at hl 1 rfl) ?_
  obtain ⟨_, r29⟩ := t_rec t tq28 (by decide) wf_12
  refine k_q (r_V C h hl (As := [.int u1]) (rest := []) (s_X0_find l D G b0 τ f t q28 tq28 u1 hu1) r29 (Cn := RX0) (T := TX0) (N := 6) rfl rfl mk_X0_find w_594 w_595 w_596 w_597 ⟨Nat.le_of_ble_eq_true rfl, Nat.le_of_ble_eq_true rfl⟩ rfl (Nat.le_of_ble_eq_true rfl) ⟨Nat.le_of_ble_eq_true rfl, Nat.le_of_ble_eq_true rfl⟩ rfl dX10_period_5) h (fun r30 f31 H locs p32 h => ?_)
  obtain ⟨qr30, tf31, ogf31⟩ := p32
  have egf31 := Fr.nil2 ogf31
  subst egf31
  have tr30 := qr30
  refine lv_astore_nO (lv' := [(2, va_rf r30), (0, .ref u0), (1, .int u1)]) hx hb dX10_period_8 rfl hl (by decide) rfl (fun ls hl => ?_)
  refine lv_aload_nO hx hb dX10_period_9 rfl (lv_at hl 0 rfl) ?_
  rcases va_rfc r30 with eq34 | ⟨q34, eq34⟩
  · subst eq34
    have hl : lv_has ls 5 [(2, .null), (0, .ref u0), (1, .int u1)] := hl
    show W _ _ _ _ _ _ _ _ _ _ _ _ _ _ _ (F0 m 10 ls [.null])
    refine lv_ifnonnullN hx hb dX10_period_10 ?_
    refine lv_iconst (v := -1) hx hb dX10_period_13 (by decide) ?_
    exact u_iret C h hr hQ (⟨⟨by decide, by decide⟩, t, o, hGJ⟩) (Nat.le_of_ble_eq_true rfl) (Nat.le_of_ble_eq_true rfl) dX10_period_14
  · subst eq34
    have tq34 : τ q34 = 1 := tr30 _ rfl
    have hl : lv_has ls 5 [(2, .ref q34), (0, .ref u0), (1, .int u1)] := hl
    show W _ _ _ _ _ _ _ _ _ _ _ _ _ _ _ (F0 m 10 ls [.ref q34])
    refine lv_ifnonnull (tgt := 15) hx hb dX10_period_10 (by decide) ?_
    refine lv_aload_n hx hb dX10_period_15 rfl (lv_at hl 1 rfl) ?_
    refine t_getfd C h t hu0 (by decide) wf_10 (v := .ref gq) kq2 fl_X10_26 dX10_period_16 ?_
    refine lv_aload_n hx hb dX10_period_19 rfl (lv_at hl 0 rfl) ?_
    refine lv_iconst (v := 3) hx hb dX10_period_20 (by decide) ?_
    refine lv_iconst (v := 0) hx hb dX10_period_21 (by decide) ?_
    obtain ⟨wqP22, twP22, kwP22⟩ := t_fref (tq := 2) (k := 0) t tq34 (by decide) wf_1 rfl
    obtain ⟨sxP22, isxP22, kxP22⟩ := t_fint (k := 1) t tq34 (by decide) wf_1 rfl
    obtain ⟨syP22, isyP22, kyP22⟩ := t_fint (k := 2) t tq34 (by decide) wf_1 rfl
    obtain ⟨wwP22, krP22, hwP22⟩ := ia_get t twP22 (by decide) wf_2
    obtain ⟨_, r35⟩ := t_rec t hgq (by decide) wf_20
    refine k_v (r_V C h hl (As := [.ref q34, .int 3, .int 0]) (rest := []) (s_X2_open l D G b0 τ f t gq hgq q34 tq34 3 (iv_w (iv_k (x := 3) (k := 3) rfl) (by decide)) 0 (iv_w (iv_k (x := 0) (k := 0) rfl) (by decide)) wqP22 twP22 kwP22 sxP22 isxP22 kxP22 syP22 isyP22 kyP22 rq mq hGJ wwP22 krP22 (row10 wwP22 sxP22 syP22) 0 (row10_in hwP22)) r35 (Cn := RX2) (T := TX2) (N := 11) rfl rfl mk_X2_open w_762 w_664 w_665 w_666 ⟨Nat.le_of_ble_eq_true rfl, Nat.le_of_ble_eq_true rfl⟩ rfl (Nat.le_of_ble_eq_true rfl) ⟨Nat.le_of_ble_eq_true rfl, Nat.le_of_ble_eq_true rfl⟩ rfl dX10_period_22) h (fun f37 H locs p38 h => ?_)
    have n39 : (3 : Int32).toInt = 3 := rfl
    have n40 : (0 : Int32).toInt = 0 := rfl
    obtain ⟨tf37, ogf37, x0r36, gjf37⟩ := p38
    have of37 : Fr [20, 21, 22, 23, 24, 25, 20001, 20002, 20007, 20008, 20009, 20010, 20011, 22001, 22002, 22003, 22004, 23001, 23002, 23003, 23004] τ f f37 := Fr.tr o ogf37 (by decide) (by decide)
    have k41 := atp.fr kq2 ogf37 hu0 (by decide)
    have k42 := atp.fr kwP22 ogf37 tq34 (by decide)
    have k43 := atp.fr krP22 ogf37 twP22 (by decide)
    have k44 := atp.fr kxP22 ogf37 tq34 (by decide)
    have k45 := atp.fr kyP22 ogf37 tq34 (by decide)
    refine lv_iconst (v := 0) hx hb dX10_period_25 (by decide) ?_
    refine lv_istore_n (lv' := [(3, .int 0), (2, .ref q34), (0, .ref u0), (1, .int u1)]) hx hb dX10_period_26 rfl hl (by decide) rfl (fun ls hl => ?_)
    refine lv_iconst (v := 1) hx hb dX10_period_27 (by decide) ?_
    refine lv_istore (lv' := [(4, .int 1), (3, .int 0), (2, .ref q34), (0, .ref u0), (1, .int u1)]) hx hb dX10_period_28 hl (by decide) rfl (fun ls hl => ?_)
    exact L30 61 ls f37 H locs q34 0 1 (by decide) (lv_cons hl 3 rfl (lv_cons hl 2 rfl (lv_cons hl 1 rfl (lv_cons hl 0 rfl (lv_nil hl))))) h tf37 of37 tq34 ⟨by decide, by decide⟩ ⟨by decide, by decide⟩ k41 gjf37 (show ∃ (vb : Nat → Int32) (vu : Int) (P : Int → Int → Bool) (md : Int), GS G τ f37 gq rq mq vb vu P md (Int.toNat (1 - 1)) from ⟨_, _, _, _, (by rw [show Int.toNat (1 - 1) = 0 from by have n1_ : (1 : Int32).toInt = 1 := rfl; omega]; exact x0r36)⟩)
abbrev rm_s_X10_noUse : Room := { frames := 4, cells := 0, slots := 0, locals := 88 }
set_option maxRecDepth 100000 in
set_option maxHeartbeats 4000000 in
theorem s_X10_noUse (l : Launch) (D : va_G) (G : Nat → Nat) (b0 : Nat) (τ : Nat → Nat) (f : hM) (t : TI G 9 τ f) (u0 : Nat) (hu0 : τ u0 = 10) (u1 : Int32) (hu1 : iv u1 (-2147483648) 2147483647) (gq rq mq : Nat) (hgq : τ gq = 20) (kq2 : atp f u0 (fd 2 (.ref gq))) (hGJ : GJ τ f gq rq mq) : mI l yX10_noUse cX10_noUse 5 (.int) rm_s_X10_noUse D G b0 f [.ref u0, .int u1] (fun r f1 => iv r (-2147483648) 2147483647 ∧ TI G 9 τ f1 ∧ Fr [20, 21, 22, 23, 24, 25, 20001, 20002, 20007, 20008, 20009, 20010, 20011, 22001, 22002, 22003, 22004, 23001, 23002, 23003, 23004] τ f f1 ∧ GJ τ f1 gq rq mq) := by
  refine met2 (own := RX10) (by decide) rfl (Nat.le_of_ble_eq_true rfl) ?_
  intro p e s m args below meth c ls Q hQ C hr hini hl h
  have hl : lv_has ls 5 [(0, .ref u0), (1, .int u1)] := hl
  obtain ⟨hx, hb, hml, hown, hts, hE0, hlk⟩ := id C
  have o := Fr.rf [20, 21, 22, 23, 24, 25, 20001, 20002, 20007, 20008, 20009, 20010, 20011, 22001, 22002, 22003, 22004, 23001, 23002, 23003, 23004] τ f
  have L33 : ∀ (n33 : Nat) (ls : Array Slot) (f_33 : hM) (H : Heap) (locs : List Loc) (v33_3 : Int32) (v33_4 : Int32), 25 - v33_4.toInt < (n33 : Int) → lv_has ls 5 [(0, .ref u0), (3, .int v33_3), (4, .int v33_4)] → hw D b0 s.heap f_33 H locs → TI G 9 τ f_33 → Fr [20, 21, 22, 23, 24, 25, 20001, 20002, 20007, 20008, 20009, 20010, 20011, 22001, 22002, 22003, 22004, 23001, 23002, 23003, 23004] τ f f_33 → iv v33_3 (-2147483648) 2147483647 → iv v33_4 1 25 → atp f_33 u0 (fd 2 (.ref gq)) → GJ τ f_33 gq rq mq → (∃ (vb : Nat → Int32) (vu : Int) (P : Int → Int → Bool) (md : Int), GS G τ f_33 gq rq mq vb vu P md (Int.toNat (v33_4.toInt - 1))) → W p l e rm_s_X10_noUse s m args below meth c H locs 0 0 Q (F0 m 33 ls []) := by
    intro n33
    induction n33 with
    | zero => intro ls f_33 H locs v33_3 v33_4 hm33 hl h t_33 o_33 iv33_3 iv33_4 k33_u0_2 k33_gq_GJ hv33_0; exact absurd hm33 (by omega)
    | succ n33 ih33 =>
      intro ls f_33 H locs v33_3 v33_4 hm33 hl h t_33 o_33 iv33_3 iv33_4 k33_u0_2 k33_gq_GJ hv33_0
      refine lv_iload hx hb dX10_noUse_33 (lv_at hl 2 rfl) ?_
      refine lv_bipush (v := 24) hx hb dX10_noUse_35 (by decide) ?_
      refine lv_icmp_gt (tgt := 70) hx hb dX10_noUse_37 (by decide) (fun c1 => ?_) (fun c1 => ?_)
      · have c2 : 24 < v33_4.toInt := Int32.lt_iff_toInt_lt.mp c1
        have i3 : iv v33_4 25 25 := iv_Lr c2 (iv_k (x := 24) (k := 24) rfl) iv33_4 (by decide)
        refine lv_iload_n hx hb dX10_noUse_70 rfl (lv_at hl 1 rfl) ?_
        exact u_iret C h hr hQ (⟨iv33_3, t_33, o_33, k33_gq_GJ⟩) (Nat.le_of_ble_eq_true rfl) (Nat.le_of_ble_eq_true rfl) dX10_noUse_71
      · have c4 : v33_4.toInt ≤ 24 := Int32.le_iff_toInt_le.mp (iv_nlt c1)
        have i5 : iv v33_4 1 24 := iv_El c4 iv33_4 (iv_k (x := 24) (k := 24) rfl) (by decide)
        refine lv_iload_n hx hb dX10_noUse_40 rfl (lv_at hl 1 rfl) ?_
        refine lv_if_eq (tgt := 70) hx hb dX10_noUse_41 (by decide) (fun c6 => ?_) (fun c6 => ?_)
        · have c7 : v33_3.toInt = 0 := congrArg Int32.toInt c6
          have i8 : iv v33_3 0 0 := iv_Q c7 iv33_3 (iv_k (x := 0) (k := 0) rfl) (by decide)
          refine lv_iload_n hx hb dX10_noUse_70 rfl (lv_at hl 1 rfl) ?_
          exact u_iret C h hr hQ (⟨(iv_w i8 (by decide)), t_33, o_33, k33_gq_GJ⟩) (Nat.le_of_ble_eq_true rfl) (Nat.le_of_ble_eq_true rfl) dX10_noUse_71
        · have c9 : v33_3.toInt ≠ 0 := fun z_ => c6 (Int32.toInt_inj.mp z_)
          obtain ⟨vb_, vu_, P_, md_, hgs_⟩ := hv33_0
          refine lv_iload_n hx hb dX10_noUse_44 rfl (lv_at hl 1 rfl) ?_
          refine lv_aload_n hx hb dX10_noUse_45 rfl (lv_at hl 0 rfl) ?_
          refine t_getfd C h t_33 hu0 (by decide) wf_10 (v := .ref gq) k33_u0_2 fl_X10_26 dX10_noUse_46 ?_
          obtain ⟨_, r10⟩ := t_rec t_33 hgq (by decide) wf_20
          refine k_i (r_V C h hl (As := []) (rest := [.int v33_3]) (s_X2_staying l D G b0 τ f_33 t_33 gq hgq rq mq k33_gq_GJ) r10 (Cn := RX2) (T := TX2) (N := 11) rfl rfl mk_X2_staying w_999 w_1000 w_1001 w_1002 ⟨Nat.le_of_ble_eq_true rfl, Nat.le_of_ble_eq_true rfl⟩ rfl (Nat.le_of_ble_eq_true rfl) ⟨Nat.le_of_ble_eq_true rfl, Nat.le_of_ble_eq_true rfl⟩ rfl dX10_noUse_49) h (fun r11 f12 H locs p13 h => ?_)
          obtain ⟨ir11, tf12, ogf12⟩ := p13
          have egf12 := Fr.nil2 ogf12
          subst egf12
          refine lv_iconst (v := -1) hx hb dX10_noUse_52 (by decide) ?_
          refine lv_ixor hx hb dX10_noUse_53 (i_top (iv_any _) (fun z14 ez14 iz14 => ?_))
          refine lv_iand hx hb dX10_noUse_54 (i_top (iv_any _) (fun z15 ez15 iz15 => ?_))
          refine lv_istore_n (lv' := [(3, .int z15), (0, .ref u0), (4, .int v33_4)]) hx hb dX10_noUse_55 rfl hl (by decide) rfl (fun ls hl => ?_)
          refine lv_aload_n hx hb dX10_noUse_56 rfl (lv_at hl 1 rfl) ?_
          refine t_getfd C h t_33 hu0 (by decide) wf_10 (v := .ref gq) k33_u0_2 fl_X10_26 dX10_noUse_57 ?_
          refine lv_iconst (v := 1) hx hb dX10_noUse_60 (by decide) ?_
          obtain ⟨_, r16⟩ := t_rec t_33 hgq (by decide) wf_20
          refine k_v (r_V C h hl (As := [.int 1]) (rest := []) (s_X2_advance l D G b0 τ f_33 t_33 gq hgq 1 (iv_w (iv_k (x := 1) (k := 1) rfl) (by decide)) rq mq vb_ vu_ P_ md_ (Int.toNat (v33_4.toInt - 1)) hgs_ (by have n_ : (1 : Int32).toInt = 1 := rfl; omega)) r16 (Cn := RX2) (T := TX2) (N := 11) rfl rfl mk_X2_advance w_767 w_688 w_689 w_690 ⟨Nat.le_of_ble_eq_true rfl, Nat.le_of_ble_eq_true rfl⟩ rfl (Nat.le_of_ble_eq_true rfl) ⟨Nat.le_of_ble_eq_true rfl, Nat.le_of_ble_eq_true rfl⟩ rfl dX10_noUse_61) h (fun f18 H locs p19 h => ?_)
          have n20 : (1 : Int32).toInt = 1 := rfl
          obtain ⟨tf18, ogf18, x0r17⟩ := p19
          have of18 : Fr [20, 21, 22, 23, 24, 25, 20001, 20002, 20007, 20008, 20009, 20010, 20011, 22001, 22002, 22003, 22004, 23001, 23002, 23003, 23004] τ f f18 := Fr.tr o_33 ogf18 (by decide) (by decide)
          have k21 := atp.fr k33_u0_2 ogf18 hu0 (by decide)
          refine i_inc hx hb dX10_noUse_64 hl (k := 2) rfl i5 rfl (lo := 2) (hi := 25) (by decide) (by decide) (lv' := fun v => [(4, .int v), (3, .int z15), (0, .ref u0)]) (fun _ => rfl) (fun z22 ls ez22 mz22 iz22 hl => ?_)
          refine lv_goto (tgt := 33) hx hb dX10_noUse_67 (by decide) ?_
          exact ih33 ls f18 H locs z15 z22 (show 25 - z22.toInt < _ by omega) (lv_cons hl 2 rfl (lv_cons hl 1 rfl (lv_cons hl 0 rfl (lv_nil hl)))) h tf18 of18 iz15 (iv_w iz22 (by decide)) k21 (GS.gj x0r17) (show ∃ (vb : Nat → Int32) (vu : Int) (P : Int → Int → Bool) (md : Int), GS G τ f18 gq rq mq vb vu P md (Int.toNat (z22.toInt - 1)) from ⟨_, _, _, _, (by rw [show Int.toNat (z22.toInt - 1) = ((Int.toNat (v33_4.toInt - 1)) + (1 : Int32).toInt.toNat) from by have n1_ : (1 : Int32).toInt = 1 := rfl; omega]; exact x0r17)⟩)
  refine lv_aload_n hx hb dX10_noUse_0 rfl (lv_at hl 0 rfl) ?_
  refine t_getr (tq := 12) C h t hu0 (by decide) wf_10 rfl fl_X10_19 dX10_noUse_1 (fun q23 tq23 => ?_)
  refine lv_iload_n hx hb dX10_noUse_4 rfl (lv_at hl 1 rfl) ?_
  obtain ⟨_, r24⟩ := t_rec t tq23 (by decide) wf_12
  refine k_q (r_V C h hl (As := [.int u1]) (rest := []) (s_X0_find l D G b0 τ f t q23 tq23 u1 hu1) r24 (Cn := RX0) (T := TX0) (N := 6) rfl rfl mk_X0_find w_594 w_595 w_596 w_597 ⟨Nat.le_of_ble_eq_true rfl, Nat.le_of_ble_eq_true rfl⟩ rfl (Nat.le_of_ble_eq_true rfl) ⟨Nat.le_of_ble_eq_true rfl, Nat.le_of_ble_eq_true rfl⟩ rfl dX10_noUse_5) h (fun r25 f26 H locs p27 h => ?_)
  obtain ⟨qr25, tf26, ogf26⟩ := p27
  have egf26 := Fr.nil2 ogf26
  subst egf26
  have tr25 := qr25
  refine lv_astore_nO (lv' := [(2, va_rf r25), (0, .ref u0), (1, .int u1)]) hx hb dX10_noUse_8 rfl hl (by decide) rfl (fun ls hl => ?_)
  refine lv_aload_nO hx hb dX10_noUse_9 rfl (lv_at hl 0 rfl) ?_
  rcases va_rfc r25 with eq29 | ⟨q29, eq29⟩
  · subst eq29
    have hl : lv_has ls 5 [(2, .null), (0, .ref u0), (1, .int u1)] := hl
    show W _ _ _ _ _ _ _ _ _ _ _ _ _ _ _ (F0 m 10 ls [.null])
    refine lv_ifnonnullN hx hb dX10_noUse_10 ?_
    refine lv_iconst (v := -1) hx hb dX10_noUse_13 (by decide) ?_
    exact u_iret C h hr hQ (⟨⟨by decide, by decide⟩, t, o, hGJ⟩) (Nat.le_of_ble_eq_true rfl) (Nat.le_of_ble_eq_true rfl) dX10_noUse_14
  · subst eq29
    have tq29 : τ q29 = 1 := tr25 _ rfl
    have hl : lv_has ls 5 [(2, .ref q29), (0, .ref u0), (1, .int u1)] := hl
    show W _ _ _ _ _ _ _ _ _ _ _ _ _ _ _ (F0 m 10 ls [.ref q29])
    refine lv_ifnonnull (tgt := 15) hx hb dX10_noUse_10 (by decide) ?_
    refine lv_aload_n hx hb dX10_noUse_15 rfl (lv_at hl 0 rfl) ?_
    obtain ⟨_, r30⟩ := t_rec t tq29 (by decide) wf_1
    refine k_i (r_V C h hl (As := []) (rest := []) (s_X6_bits l D G b0 τ f t q29 tq29) r30 (Cn := RX6) (T := TX6) (N := 4) rfl rfl mk_X6_bits w_998 w_680 w_681 w_682 ⟨Nat.le_of_ble_eq_true rfl, Nat.le_of_ble_eq_true rfl⟩ rfl (Nat.le_of_ble_eq_true rfl) ⟨Nat.le_of_ble_eq_true rfl, Nat.le_of_ble_eq_true rfl⟩ rfl dX10_noUse_16) h (fun r31 f32 H locs p33 h => ?_)
    obtain ⟨ir31, tf32, ogf32⟩ := p33
    have egf32 := Fr.nil2 ogf32
    subst egf32
    refine lv_istore_n (lv' := [(3, .int r31), (2, .ref q29), (0, .ref u0), (1, .int u1)]) hx hb dX10_noUse_19 rfl hl (by decide) rfl (fun ls hl => ?_)
    refine lv_aload_n hx hb dX10_noUse_20 rfl (lv_at hl 2 rfl) ?_
    refine t_getfd C h t hu0 (by decide) wf_10 (v := .ref gq) kq2 fl_X10_26 dX10_noUse_21 ?_
    refine lv_aload_n hx hb dX10_noUse_24 rfl (lv_at hl 1 rfl) ?_
    refine lv_iconst (v := 3) hx hb dX10_noUse_25 (by decide) ?_
    refine lv_iconst (v := 0) hx hb dX10_noUse_26 (by decide) ?_
    obtain ⟨wqP27, twP27, kwP27⟩ := t_fref (tq := 2) (k := 0) t tq29 (by decide) wf_1 rfl
    obtain ⟨sxP27, isxP27, kxP27⟩ := t_fint (k := 1) t tq29 (by decide) wf_1 rfl
    obtain ⟨syP27, isyP27, kyP27⟩ := t_fint (k := 2) t tq29 (by decide) wf_1 rfl
    obtain ⟨wwP27, krP27, hwP27⟩ := ia_get t twP27 (by decide) wf_2
    obtain ⟨_, r34⟩ := t_rec t hgq (by decide) wf_20
    refine k_v (r_V C h hl (As := [.ref q29, .int 3, .int 0]) (rest := []) (s_X2_open l D G b0 τ f t gq hgq q29 tq29 3 (iv_w (iv_k (x := 3) (k := 3) rfl) (by decide)) 0 (iv_w (iv_k (x := 0) (k := 0) rfl) (by decide)) wqP27 twP27 kwP27 sxP27 isxP27 kxP27 syP27 isyP27 kyP27 rq mq hGJ wwP27 krP27 (row10 wwP27 sxP27 syP27) 0 (row10_in hwP27)) r34 (Cn := RX2) (T := TX2) (N := 11) rfl rfl mk_X2_open w_762 w_664 w_665 w_666 ⟨Nat.le_of_ble_eq_true rfl, Nat.le_of_ble_eq_true rfl⟩ rfl (Nat.le_of_ble_eq_true rfl) ⟨Nat.le_of_ble_eq_true rfl, Nat.le_of_ble_eq_true rfl⟩ rfl dX10_noUse_27) h (fun f36 H locs p37 h => ?_)
    have n38 : (3 : Int32).toInt = 3 := rfl
    have n39 : (0 : Int32).toInt = 0 := rfl
    obtain ⟨tf36, ogf36, x0r35, gjf36⟩ := p37
    have of36 : Fr [20, 21, 22, 23, 24, 25, 20001, 20002, 20007, 20008, 20009, 20010, 20011, 22001, 22002, 22003, 22004, 23001, 23002, 23003, 23004] τ f f36 := Fr.tr o ogf36 (by decide) (by decide)
    have k40 := atp.fr kq2 ogf36 hu0 (by decide)
    have k41 := atp.fr kwP27 ogf36 tq29 (by decide)
    have k42 := atp.fr krP27 ogf36 twP27 (by decide)
    have k43 := atp.fr kxP27 ogf36 tq29 (by decide)
    have k44 := atp.fr kyP27 ogf36 tq29 (by decide)
    refine lv_iconst (v := 1) hx hb dX10_noUse_30 (by decide) ?_
    refine lv_istore (lv' := [(4, .int 1), (3, .int r31), (2, .ref q29), (0, .ref u0), (1, .int u1)]) hx hb dX10_noUse_31 hl (by decide) rfl (fun ls hl => ?_)
    exact L33 25 ls f36 H locs r31 1 (by decide) (lv_cons hl 3 rfl (lv_cons hl 1 rfl (lv_cons hl 0 rfl (lv_nil hl)))) h tf36 of36 ir31 ⟨by decide, by decide⟩ k40 gjf36 (show ∃ (vb : Nat → Int32) (vu : Int) (P : Int → Int → Bool) (md : Int), GS G τ f36 gq rq mq vb vu P md (Int.toNat (1 - 1)) from ⟨_, _, _, _, (by rw [show Int.toNat (1 - 1) = 0 from by have n1_ : (1 : Int32).toInt = 1 := rfl; omega]; exact x0r35)⟩)
abbrev rm_s_X10_walk : Room := { frames := 4, cells := 0, slots := 0, locals := 101 }
set_option maxRecDepth 100000 in
set_option maxHeartbeats 4000000 in
theorem s_X10_walk (l : Launch) (D : va_G) (G : Nat → Nat) (b0 : Nat) (τ : Nat → Nat) (f : hM) (t : TI G 9 τ f) (u0 : Nat) (hu0 : τ u0 = 10) (u1 : Int32) (hu1 : iv u1 (-2147483648) 2147483647) (u2 : Int32) (hu2 : iv u2 (-2147483648) 2147483647) (u3 : Int32) (hu3 : iv u3 (-2147483648) 2147483647) (u4 : Int32) (hu4 : iv u4 (-2147483648) 2147483647) (u5 : Int32) (hu5 : iv u5 (-2147483648) 2147483647) (u6 : Int32) (hu6 : iv u6 (-2147483648) 2147483647) : mI l yX10_walk cX10_walk 9 (.int) rm_s_X10_walk D G b0 f [.ref u0, .int u1, .int u2, .int u3, .int u4, .int u5, .int u6] (fun r f1 => iv r (-2147483648) 2147483647 ∧ TI G 9 τ f1 ∧ Fr [30, 32, 30002, 30003, 30004] τ f f1) := by
  refine met2 (own := RX10) (by decide) rfl (Nat.le_of_ble_eq_true rfl) ?_
  intro p e s m args below meth c ls Q hQ C hr hini hl h
  have hl : lv_has ls 9 [(0, .ref u0), (1, .int u1), (2, .int u2), (3, .int u3), (4, .int u4), (5, .int u5), (6, .int u6)] := hl
  obtain ⟨hx, hb, hml, hown, hts, hE0, hlk⟩ := id C
  have o := Fr.rf [30, 32, 30002, 30003, 30004] τ f
  refine lv_aload_n hx hb dX10_walk_0 rfl (lv_at hl 0 rfl) ?_
  refine t_getr (tq := 12) C h t hu0 (by decide) wf_10 rfl fl_X10_19 dX10_walk_1 (fun q1 tq1 => ?_)
  refine lv_iload_n hx hb dX10_walk_4 rfl (lv_at hl 1 rfl) ?_
  obtain ⟨_, r2⟩ := t_rec t tq1 (by decide) wf_12
  refine k_q (r_V C h hl (As := [.int u1]) (rest := []) (s_X0_find l D G b0 τ f t q1 tq1 u1 hu1) r2 (Cn := RX0) (T := TX0) (N := 6) rfl rfl mk_X0_find w_594 w_595 w_596 w_597 ⟨Nat.le_of_ble_eq_true rfl, Nat.le_of_ble_eq_true rfl⟩ rfl (Nat.le_of_ble_eq_true rfl) ⟨Nat.le_of_ble_eq_true rfl, Nat.le_of_ble_eq_true rfl⟩ rfl dX10_walk_5) h (fun r3 f4 H locs p5 h => ?_)
  obtain ⟨qr3, tf4, ogf4⟩ := p5
  have egf4 := Fr.nil2 ogf4
  subst egf4
  have tr3 := qr3
  refine lv_astoreO (lv' := [(7, va_rf r3), (0, .ref u0), (1, .int u1), (2, .int u2), (3, .int u3), (4, .int u4), (5, .int u5), (6, .int u6)]) hx hb dX10_walk_8 hl (by decide) rfl (fun ls hl => ?_)
  refine lv_aloadO hx hb dX10_walk_10 (lv_at hl 0 rfl) ?_
  rcases va_rfc r3 with eq7 | ⟨q7, eq7⟩
  · subst eq7
    have hl : lv_has ls 9 [(7, .null), (0, .ref u0), (1, .int u1), (2, .int u2), (3, .int u3), (4, .int u4), (5, .int u5), (6, .int u6)] := hl
    show W _ _ _ _ _ _ _ _ _ _ _ _ _ _ _ (F0 m 12 ls [.null])
    refine lv_ifnullN (tgt := 34) hx hb dX10_walk_12 (by decide) ?_
    refine lv_ldc (v := -1000000) hx hb hown (hts _ w_772) dX10_walk_34 ?_
    exact u_iret C h hr hQ (⟨⟨by decide, by decide⟩, t, o⟩) (Nat.le_of_ble_eq_true rfl) (Nat.le_of_ble_eq_true rfl) dX10_walk_36
  · subst eq7
    have tq7 : τ q7 = 1 := tr3 _ rfl
    have hl : lv_has ls 9 [(7, .ref q7), (0, .ref u0), (1, .int u1), (2, .int u2), (3, .int u3), (4, .int u4), (5, .int u5), (6, .int u6)] := hl
    show W _ _ _ _ _ _ _ _ _ _ _ _ _ _ _ (F0 m 12 ls [.ref q7])
    refine lv_ifnull hx hb dX10_walk_12 ?_
    refine lv_iload_n hx hb dX10_walk_15 rfl (lv_at hl 3 rfl) ?_
    refine lv_iconst (v := 0) hx hb dX10_walk_16 (by decide) ?_
    refine lv_bipush (v := 10) hx hb dX10_walk_17 (by decide) ?_
    refine k_i (r_S C h hl (As := [.int u2, .int 0, .int 10]) (rest := []) (s_X10_within l D G b0 τ f t u2 hu2 0 (iv_w (iv_k (x := 0) (k := 0) rfl) (by decide)) 10 (iv_w (iv_k (x := 10) (k := 10) rfl) (by decide))) mk_X10_within w_425 w_426 w_427 ⟨Nat.le_of_ble_eq_true rfl, Nat.le_of_ble_eq_true rfl⟩ rfl (Nat.le_of_ble_eq_true rfl) ⟨Nat.le_of_ble_eq_true rfl, Nat.le_of_ble_eq_true rfl⟩ rfl dX10_walk_19) h (fun r8 f9 H locs p10 h => ?_)
    have n11 : (0 : Int32).toInt = 0 := rfl
    have n12 : (10 : Int32).toInt = 10 := rfl
    obtain ⟨ir8, tf9, ogf9, cnr8, czr8⟩ := p10
    have egf9 := Fr.nil2 ogf9
    subst egf9
    refine lv_if_eq (tgt := 34) hx hb dX10_walk_22 (by decide) (fun c13 => ?_) (fun c13 => ?_)
    · have c14 : r8.toInt = 0 := congrArg Int32.toInt c13
      have i15 : iv r8 0 0 := iv_Q c14 ir8 (iv_k (x := 0) (k := 0) rfl) (by decide)
      have i16 := czr8 c14
      refine lv_ldc (v := -1000000) hx hb hown (hts _ w_772) dX10_walk_34 ?_
      exact u_iret C h hr hQ (⟨⟨by decide, by decide⟩, t, o⟩) (Nat.le_of_ble_eq_true rfl) (Nat.le_of_ble_eq_true rfl) dX10_walk_36
    · have c17 : r8.toInt ≠ 0 := fun z_ => c13 (Int32.toInt_inj.mp z_)
      have i18 : iv r8 1 1 := iv_Nl c17 ir8 (by decide)
      obtain ⟨i19, i20⟩ := cnr8 c17
      have i21 : iv u2 0 10 := ⟨by omega, by omega⟩
      refine lv_iload_n hx hb dX10_walk_25 rfl (lv_at hl 4 rfl) ?_
      refine lv_iload hx hb dX10_walk_26 (lv_at hl 5 rfl) ?_
      refine k_i (r_S C h hl (As := [.int u3, .int u4]) (rest := []) (s_X10_isNear l D G b0 τ f t u3 hu3 u4 hu4) mk_X10_isNear w_656 w_657 w_658 ⟨Nat.le_of_ble_eq_true rfl, Nat.le_of_ble_eq_true rfl⟩ rfl (Nat.le_of_ble_eq_true rfl) ⟨Nat.le_of_ble_eq_true rfl, Nat.le_of_ble_eq_true rfl⟩ rfl dX10_walk_28) h (fun r22 f23 H locs p24 h => ?_)
      obtain ⟨ir22, tf23, ogf23, cnr22⟩ := p24
      have egf23 := Fr.nil2 ogf23
      subst egf23
      refine lv_if_ne (tgt := 37) hx hb dX10_walk_31 (by decide) (fun c25 => ?_) (fun c25 => ?_)
      · have c26 : r22.toInt ≠ 0 := fun z_ => c25 (Int32.toInt_inj.mp z_)
        have i27 : iv r22 1 1 := iv_Nl c26 ir22 (by decide)
        obtain ⟨i28, i29⟩ := cnr22 c26
        refine lv_aload_n hx hb dX10_walk_37 rfl (lv_at hl 1 rfl) ?_
        refine t_getr (tq := 30) C h t hu0 (by decide) wf_10 rfl fl_X10_33 dX10_walk_38 (fun q32 tq32 => ?_)
        refine lv_aload hx hb dX10_walk_41 (lv_at hl 0 rfl) ?_
        refine lv_iload_n hx hb dX10_walk_43 rfl (lv_at hl 3 rfl) ?_
        refine lv_iload_n hx hb dX10_walk_44 rfl (lv_at hl 4 rfl) ?_
        refine lv_iload hx hb dX10_walk_45 (lv_at hl 5 rfl) ?_
        obtain ⟨_, r33⟩ := t_rec t tq32 (by decide) wf_30
        refine k_i (r_V C h hl (As := [.ref q7, .int u2, .int u3, .int u4]) (rest := []) (s_X9_lead l D G b0 τ f t q32 tq32 q7 tq7 u2 (iv_w i21 (by decide)) u3 (iv_w i28 (by decide)) u4 (iv_w i29 (by decide))) r33 (Cn := RX9) (T := TX9) (N := 4) rfl rfl mk_X9_lead w_864 w_865 w_866 w_867 ⟨Nat.le_of_ble_eq_true rfl, Nat.le_of_ble_eq_true rfl⟩ rfl (Nat.le_of_ble_eq_true rfl) ⟨Nat.le_of_ble_eq_true rfl, Nat.le_of_ble_eq_true rfl⟩ rfl dX10_walk_47) h (fun r34 f35 H locs p36 h => ?_)
        obtain ⟨ir34, tf35, ogf35⟩ := p36
        have of35 : Fr [30, 32, 30002, 30003, 30004] τ f f35 := Fr.tr o ogf35 (by decide) (by decide)
        refine lv_istore (lv' := [(8, .int r34), (7, .ref q7), (0, .ref u0), (1, .int u1), (2, .int u2), (3, .int u3), (4, .int u4), (5, .int u5), (6, .int u6)]) hx hb dX10_walk_50 hl (by decide) rfl (fun ls hl => ?_)
        refine lv_iload hx hb dX10_walk_52 (lv_at hl 7 rfl) ?_
        refine lv_iconst (v := -1) hx hb dX10_walk_54 (by decide) ?_
        refine lv_icmp_ne (tgt := 61) hx hb dX10_walk_55 (by decide) (fun c37 => ?_) (fun c37 => ?_)
        · have c38 : u5.toInt ≠ (-1) := fun z_ => c37 (Int32.toInt_inj.mp z_)
          refine lv_iload hx hb dX10_walk_61 (lv_at hl 7 rfl) ?_
          refine lv_iconst (v := 0) hx hb dX10_walk_63 (by decide) ?_
          refine lv_iload hx hb dX10_walk_64 (lv_at hl 0 rfl) ?_
          refine lv_iconst (v := 1) hx hb dX10_walk_66 (by decide) ?_
          refine lv_isub hx hb dX10_walk_67 (i_top (iv_any _) (fun z41 ez41 iz41 => ?_))
          refine k_i (r_S C h hl (As := [.int u5, .int 0, .int z41]) (rest := []) (s_X10_within l D G b0 τ f35 tf35 u5 hu5 0 (iv_w (iv_k (x := 0) (k := 0) rfl) (by decide)) z41 iz41) mk_X10_within w_425 w_426 w_427 ⟨Nat.le_of_ble_eq_true rfl, Nat.le_of_ble_eq_true rfl⟩ rfl (Nat.le_of_ble_eq_true rfl) ⟨Nat.le_of_ble_eq_true rfl, Nat.le_of_ble_eq_true rfl⟩ rfl dX10_walk_68) h (fun r42 f43 H locs p44 h => ?_)
          have n45 : (0 : Int32).toInt = 0 := rfl
          obtain ⟨ir42, tf43, ogf43, cnr42, czr42⟩ := p44
          have egf43 := Fr.nil2 ogf43
          subst egf43
          refine lv_if_eq (tgt := 86) hx hb dX10_walk_71 (by decide) (fun c46 => ?_) (fun c46 => ?_)
          · have c47 : r42.toInt = 0 := congrArg Int32.toInt c46
            have i48 : iv r42 0 0 := iv_Q c47 ir42 (iv_k (x := 0) (k := 0) rfl) (by decide)
            have i49 := czr42 c47
            refine lv_ldc (v := -1000000) hx hb hown (hts _ w_772) dX10_walk_86 ?_
            exact u_iret C h hr hQ (⟨⟨by decide, by decide⟩, tf35, of35⟩) (Nat.le_of_ble_eq_true rfl) (Nat.le_of_ble_eq_true rfl) dX10_walk_88
          · have c50 : r42.toInt ≠ 0 := fun z_ => c46 (Int32.toInt_inj.mp z_)
            have i51 : iv r42 1 1 := iv_Nl c50 ir42 (by decide)
            obtain ⟨i52, i53⟩ := cnr42 c50
            have i54 : iv u5 0 2147483647 := ⟨by omega, by omega⟩
            refine lv_iload hx hb dX10_walk_74 (lv_at hl 8 rfl) ?_
            refine lv_iconst (v := 0) hx hb dX10_walk_76 (by decide) ?_
            refine lv_iload_n hx hb dX10_walk_77 rfl (lv_at hl 4 rfl) ?_
            refine lv_iconst (v := 1) hx hb dX10_walk_78 (by decide) ?_
            refine i_subk hx hb dX10_walk_79 i21 (k := 1) rfl (lo := (-1)) (hi := 9) (by decide) (fun z55 ez55 mz55 iz55 => ?_)
            refine k_i (r_S C h hl (As := [.int u6, .int 0, .int z55]) (rest := []) (s_X10_within l D G b0 τ f35 tf35 u6 hu6 0 (iv_w (iv_k (x := 0) (k := 0) rfl) (by decide)) z55 (iv_w iz55 (by decide))) mk_X10_within w_425 w_426 w_427 ⟨Nat.le_of_ble_eq_true rfl, Nat.le_of_ble_eq_true rfl⟩ rfl (Nat.le_of_ble_eq_true rfl) ⟨Nat.le_of_ble_eq_true rfl, Nat.le_of_ble_eq_true rfl⟩ rfl dX10_walk_80) h (fun r56 f57 H locs p58 h => ?_)
            have n59 : (0 : Int32).toInt = 0 := rfl
            obtain ⟨ir56, tf57, ogf57, cnr56, czr56⟩ := p58
            have egf57 := Fr.nil2 ogf57
            subst egf57
            refine lv_if_ne (tgt := 89) hx hb dX10_walk_83 (by decide) (fun c60 => ?_) (fun c60 => ?_)
            · have c61 : r56.toInt ≠ 0 := fun z_ => c60 (Int32.toInt_inj.mp z_)
              have i62 : iv r56 1 1 := iv_Nl c61 ir56 (by decide)
              obtain ⟨i63, i64⟩ := cnr56 c61
              have i65 : iv u6 0 9 := ⟨by omega, by omega⟩
              refine lv_aload_n hx hb dX10_walk_89 rfl (lv_at hl 2 rfl) ?_
              refine t_getr (tq := 30) C h tf35 hu0 (by decide) wf_10 rfl fl_X10_33 dX10_walk_90 (fun q69 tq69 => ?_)
              refine lv_aload hx hb dX10_walk_93 (lv_at hl 1 rfl) ?_
              refine lv_iload hx hb dX10_walk_95 (lv_at hl 7 rfl) ?_
              refine lv_iload hx hb dX10_walk_97 (lv_at hl 8 rfl) ?_
              obtain ⟨_, r70⟩ := t_rec tf35 tq69 (by decide) wf_30
              refine k_i (r_V C h hl (As := [.ref q7, .int u5, .int u6]) (rest := []) (s_X9_follow l D G b0 τ f35 tf35 q69 tq69 q7 tq7 u5 (iv_w i54 (by decide)) u6 (iv_w i65 (by decide))) r70 (Cn := RX9) (T := TX9) (N := 4) rfl rfl mk_X9_follow w_885 w_886 w_887 w_888 ⟨Nat.le_of_ble_eq_true rfl, Nat.le_of_ble_eq_true rfl⟩ rfl (Nat.le_of_ble_eq_true rfl) ⟨Nat.le_of_ble_eq_true rfl, Nat.le_of_ble_eq_true rfl⟩ rfl dX10_walk_99) h (fun r71 f72 H locs p73 h => ?_)
              obtain ⟨ir71, tf72, ogf72⟩ := p73
              have egf72 := Fr.nil2 ogf72
              subst egf72
              exact u_iret C h hr hQ (⟨(iv_w ir71 (by decide)), tf35, of35⟩) (Nat.le_of_ble_eq_true rfl) (Nat.le_of_ble_eq_true rfl) dX10_walk_102
            · have c66 : r56.toInt = 0 := congrArg Int32.toInt c60
              have i67 : iv r56 0 0 := iv_Q c66 ir56 (iv_k (x := 0) (k := 0) rfl) (by decide)
              have i68 := czr56 c66
              refine lv_ldc (v := -1000000) hx hb hown (hts _ w_772) dX10_walk_86 ?_
              exact u_iret C h hr hQ (⟨⟨by decide, by decide⟩, tf35, of35⟩) (Nat.le_of_ble_eq_true rfl) (Nat.le_of_ble_eq_true rfl) dX10_walk_88
        · have c39 : u5.toInt = (-1) := congrArg Int32.toInt c37
          have i40 : iv u5 (-1) (-1) := iv_Q c39 hu5 (iv_k (x := (-1)) (k := (-1)) rfl) (by decide)
          refine lv_iload hx hb dX10_walk_58 (lv_at hl 0 rfl) ?_
          exact u_iret C h hr hQ (⟨ir34, tf35, of35⟩) (Nat.le_of_ble_eq_true rfl) (Nat.le_of_ble_eq_true rfl) dX10_walk_60
      · have c30 : r22.toInt = 0 := congrArg Int32.toInt c25
        have i31 : iv r22 0 0 := iv_Q c30 ir22 (iv_k (x := 0) (k := 0) rfl) (by decide)
        refine lv_ldc (v := -1000000) hx hb hown (hts _ w_772) dX10_walk_34 ?_
        exact u_iret C h hr hQ (⟨⟨by decide, by decide⟩, t, o⟩) (Nat.le_of_ble_eq_true rfl) (Nat.le_of_ble_eq_true rfl) dX10_walk_36
abbrev rm_s_X10_drawn : Room := { frames := 4, cells := 0, slots := 0, locals := 101 }
set_option maxRecDepth 100000 in
set_option maxHeartbeats 4000000 in
theorem s_X10_drawn (l : Launch) (D : va_G) (G : Nat → Nat) (b0 : Nat) (τ : Nat → Nat) (f : hM) (t : TI G 9 τ f) (u0 : Nat) (hu0 : τ u0 = 10) (u1 : Int32) (hu1 : iv u1 (-2147483648) 2147483647) (u2 : Int32) (hu2 : iv u2 (-2147483648) 2147483647) (u3 : Int32) (hu3 : iv u3 (-2147483648) 2147483647) (u4 : Int32) (hu4 : iv u4 (-2147483648) 2147483647) (u5 : Int64) (u6 : Int32) (hu6 : iv u6 (-2147483648) 2147483647) : mI l yX10_drawn cX10_drawn 12 (.int) rm_s_X10_drawn D G b0 f [.ref u0, .int u1, .int u2, .int u3, .int u4, .long u5, .int u6] (fun r f1 => iv r (-1000000) 7 ∧ TI G 9 τ f1 ∧ Fr [30, 32, 30002, 30003, 30004] τ f f1) := by
  refine met2 (own := RX10) (by decide) rfl (Nat.le_of_ble_eq_true rfl) ?_
  intro p e s m args below meth c ls Q hQ C hr hini hl h
  have hl : lv_has ls 12 [(0, .ref u0), (1, .int u1), (2, .int u2), (3, .int u3), (4, .int u4), (5, .long u5), (7, .int u6)] := hl
  obtain ⟨hx, hb, hml, hown, hts, hE0, hlk⟩ := id C
  have o := Fr.rf [30, 32, 30002, 30003, 30004] τ f
  refine lv_aload_n hx hb dX10_drawn_0 rfl (lv_at hl 0 rfl) ?_
  refine t_getr (tq := 12) C h t hu0 (by decide) wf_10 rfl fl_X10_19 dX10_drawn_1 (fun q1 tq1 => ?_)
  refine lv_iload_n hx hb dX10_drawn_4 rfl (lv_at hl 1 rfl) ?_
  obtain ⟨_, r2⟩ := t_rec t tq1 (by decide) wf_12
  refine k_q (r_V C h hl (As := [.int u1]) (rest := []) (s_X0_find l D G b0 τ f t q1 tq1 u1 hu1) r2 (Cn := RX0) (T := TX0) (N := 6) rfl rfl mk_X0_find w_594 w_595 w_596 w_597 ⟨Nat.le_of_ble_eq_true rfl, Nat.le_of_ble_eq_true rfl⟩ rfl (Nat.le_of_ble_eq_true rfl) ⟨Nat.le_of_ble_eq_true rfl, Nat.le_of_ble_eq_true rfl⟩ rfl dX10_drawn_5) h (fun r3 f4 H locs p5 h => ?_)
  obtain ⟨qr3, tf4, ogf4⟩ := p5
  have egf4 := Fr.nil2 ogf4
  subst egf4
  have tr3 := qr3
  refine lv_astoreO (lv' := [(8, va_rf r3), (0, .ref u0), (1, .int u1), (2, .int u2), (3, .int u3), (4, .int u4), (5, .long u5), (7, .int u6)]) hx hb dX10_drawn_8 hl (by decide) rfl (fun ls hl => ?_)
  refine lv_aloadO hx hb dX10_drawn_10 (lv_at hl 0 rfl) ?_
  rcases va_rfc r3 with eq7 | ⟨q7, eq7⟩
  · subst eq7
    have hl : lv_has ls 12 [(8, .null), (0, .ref u0), (1, .int u1), (2, .int u2), (3, .int u3), (4, .int u4), (5, .long u5), (7, .int u6)] := hl
    show W _ _ _ _ _ _ _ _ _ _ _ _ _ _ _ (F0 m 12 ls [.null])
    refine lv_ifnullN (tgt := 46) hx hb dX10_drawn_12 (by decide) ?_
    refine lv_ldc (v := -1000000) hx hb hown (hts _ w_772) dX10_drawn_46 ?_
    exact u_iret C h hr hQ (⟨⟨by decide, by decide⟩, t, o⟩) (Nat.le_of_ble_eq_true rfl) (Nat.le_of_ble_eq_true rfl) dX10_drawn_48
  · subst eq7
    have tq7 : τ q7 = 1 := tr3 _ rfl
    have hl : lv_has ls 12 [(8, .ref q7), (0, .ref u0), (1, .int u1), (2, .int u2), (3, .int u3), (4, .int u4), (5, .long u5), (7, .int u6)] := hl
    show W _ _ _ _ _ _ _ _ _ _ _ _ _ _ _ (F0 m 12 ls [.ref q7])
    refine lv_ifnull hx hb dX10_drawn_12 ?_
    refine lv_iload_n hx hb dX10_drawn_15 rfl (lv_at hl 3 rfl) ?_
    refine lv_iconst (v := 0) hx hb dX10_drawn_16 (by decide) ?_
    refine lv_bipush (v := 10) hx hb dX10_drawn_17 (by decide) ?_
    refine k_i (r_S C h hl (As := [.int u2, .int 0, .int 10]) (rest := []) (s_X10_within l D G b0 τ f t u2 hu2 0 (iv_w (iv_k (x := 0) (k := 0) rfl) (by decide)) 10 (iv_w (iv_k (x := 10) (k := 10) rfl) (by decide))) mk_X10_within w_425 w_426 w_427 ⟨Nat.le_of_ble_eq_true rfl, Nat.le_of_ble_eq_true rfl⟩ rfl (Nat.le_of_ble_eq_true rfl) ⟨Nat.le_of_ble_eq_true rfl, Nat.le_of_ble_eq_true rfl⟩ rfl dX10_drawn_19) h (fun r8 f9 H locs p10 h => ?_)
    have n11 : (0 : Int32).toInt = 0 := rfl
    have n12 : (10 : Int32).toInt = 10 := rfl
    obtain ⟨ir8, tf9, ogf9, cnr8, czr8⟩ := p10
    have egf9 := Fr.nil2 ogf9
    subst egf9
    refine lv_if_eq (tgt := 46) hx hb dX10_drawn_22 (by decide) (fun c13 => ?_) (fun c13 => ?_)
    · have c14 : r8.toInt = 0 := congrArg Int32.toInt c13
      have i15 : iv r8 0 0 := iv_Q c14 ir8 (iv_k (x := 0) (k := 0) rfl) (by decide)
      have i16 := czr8 c14
      refine lv_ldc (v := -1000000) hx hb hown (hts _ w_772) dX10_drawn_46 ?_
      exact u_iret C h hr hQ (⟨⟨by decide, by decide⟩, t, o⟩) (Nat.le_of_ble_eq_true rfl) (Nat.le_of_ble_eq_true rfl) dX10_drawn_48
    · have c17 : r8.toInt ≠ 0 := fun z_ => c13 (Int32.toInt_inj.mp z_)
      have i18 : iv r8 1 1 := iv_Nl c17 ir8 (by decide)
      obtain ⟨i19, i20⟩ := cnr8 c17
      have i21 : iv u2 0 10 := ⟨by omega, by omega⟩
      refine lv_iload_n hx hb dX10_drawn_25 rfl (lv_at hl 4 rfl) ?_
      refine lv_iload hx hb dX10_drawn_26 (lv_at hl 5 rfl) ?_
      refine k_i (r_S C h hl (As := [.int u3, .int u4]) (rest := []) (s_X10_isNear l D G b0 τ f t u3 hu3 u4 hu4) mk_X10_isNear w_656 w_657 w_658 ⟨Nat.le_of_ble_eq_true rfl, Nat.le_of_ble_eq_true rfl⟩ rfl (Nat.le_of_ble_eq_true rfl) ⟨Nat.le_of_ble_eq_true rfl, Nat.le_of_ble_eq_true rfl⟩ rfl dX10_drawn_28) h (fun r22 f23 H locs p24 h => ?_)
      obtain ⟨ir22, tf23, ogf23, cnr22⟩ := p24
      have egf23 := Fr.nil2 ogf23
      subst egf23
      refine lv_if_eq (tgt := 46) hx hb dX10_drawn_31 (by decide) (fun c25 => ?_) (fun c25 => ?_)
      · have c26 : r22.toInt = 0 := congrArg Int32.toInt c25
        have i27 : iv r22 0 0 := iv_Q c26 ir22 (iv_k (x := 0) (k := 0) rfl) (by decide)
        refine lv_ldc (v := -1000000) hx hb hown (hts _ w_772) dX10_drawn_46 ?_
        exact u_iret C h hr hQ (⟨⟨by decide, by decide⟩, t, o⟩) (Nat.le_of_ble_eq_true rfl) (Nat.le_of_ble_eq_true rfl) dX10_drawn_48
      · have c28 : r22.toInt ≠ 0 := fun z_ => c25 (Int32.toInt_inj.mp z_)
        have i29 : iv r22 1 1 := iv_Nl c28 ir22 (by decide)
        obtain ⟨i30, i31⟩ := cnr22 c28
        refine lv_iload hx hb dX10_drawn_34 (lv_at hl 7 rfl) ?_
        refine lv_iconst (v := 0) hx hb dX10_drawn_36 (by decide) ?_
        refine lv_iload_n hx hb dX10_drawn_37 rfl (lv_at hl 3 rfl) ?_
        refine lv_iconst (v := 1) hx hb dX10_drawn_38 (by decide) ?_
        refine i_subk hx hb dX10_drawn_39 i21 (k := 1) rfl (lo := (-1)) (hi := 9) (by decide) (fun z32 ez32 mz32 iz32 => ?_)
        refine k_i (r_S C h hl (As := [.int u6, .int 0, .int z32]) (rest := []) (s_X10_within l D G b0 τ f t u6 hu6 0 (iv_w (iv_k (x := 0) (k := 0) rfl) (by decide)) z32 (iv_w iz32 (by decide))) mk_X10_within w_425 w_426 w_427 ⟨Nat.le_of_ble_eq_true rfl, Nat.le_of_ble_eq_true rfl⟩ rfl (Nat.le_of_ble_eq_true rfl) ⟨Nat.le_of_ble_eq_true rfl, Nat.le_of_ble_eq_true rfl⟩ rfl dX10_drawn_40) h (fun r33 f34 H locs p35 h => ?_)
        have n36 : (0 : Int32).toInt = 0 := rfl
        obtain ⟨ir33, tf34, ogf34, cnr33, czr33⟩ := p35
        have egf34 := Fr.nil2 ogf34
        subst egf34
        refine lv_if_ne (tgt := 49) hx hb dX10_drawn_43 (by decide) (fun c37 => ?_) (fun c37 => ?_)
        · have c38 : r33.toInt ≠ 0 := fun z_ => c37 (Int32.toInt_inj.mp z_)
          have i39 : iv r33 1 1 := iv_Nl c38 ir33 (by decide)
          obtain ⟨i40, i41⟩ := cnr33 c38
          have i42 : iv u6 0 9 := ⟨by omega, by omega⟩
          refine lv_aload_n hx hb dX10_drawn_49 rfl (lv_at hl 1 rfl) ?_
          refine t_getr (tq := 30) C h t hu0 (by decide) wf_10 rfl fl_X10_33 dX10_drawn_50 (fun q46 tq46 => ?_)
          refine lv_aload hx hb dX10_drawn_53 (lv_at hl 0 rfl) ?_
          refine lv_iload_n hx hb dX10_drawn_55 rfl (lv_at hl 3 rfl) ?_
          refine lv_iload_n hx hb dX10_drawn_56 rfl (lv_at hl 4 rfl) ?_
          refine lv_iload hx hb dX10_drawn_57 (lv_at hl 5 rfl) ?_
          obtain ⟨_, r47⟩ := t_rec t tq46 (by decide) wf_30
          refine k_i (r_V C h hl (As := [.ref q7, .int u2, .int u3, .int u4]) (rest := []) (s_X9_lead l D G b0 τ f t q46 tq46 q7 tq7 u2 (iv_w i21 (by decide)) u3 (iv_w i30 (by decide)) u4 (iv_w i31 (by decide))) r47 (Cn := RX9) (T := TX9) (N := 4) rfl rfl mk_X9_lead w_864 w_865 w_866 w_867 ⟨Nat.le_of_ble_eq_true rfl, Nat.le_of_ble_eq_true rfl⟩ rfl (Nat.le_of_ble_eq_true rfl) ⟨Nat.le_of_ble_eq_true rfl, Nat.le_of_ble_eq_true rfl⟩ rfl dX10_drawn_59) h (fun r48 f49 H locs p50 h => ?_)
          obtain ⟨ir48, tf49, ogf49⟩ := p50
          have of49 : Fr [30, 32, 30002, 30003, 30004] τ f f49 := Fr.tr o ogf49 (by decide) (by decide)
          refine lv_istore (lv' := [(9, .int r48), (8, .ref q7), (0, .ref u0), (1, .int u1), (2, .int u2), (3, .int u3), (4, .int u4), (5, .long u5), (7, .int u6)]) hx hb dX10_drawn_62 hl (by decide) rfl (fun ls hl => ?_)
          refine lv_iload hx hb dX10_drawn_64 (lv_at hl 0 rfl) ?_
          refine lv_if_gt (tgt := 72) hx hb dX10_drawn_66 (by decide) (fun c51 => ?_) (fun c51 => ?_)
          · have c52 : 0 < r48.toInt := Int32.lt_iff_toInt_lt.mp c51
            have i53 : iv r48 1 2147483647 := iv_Lr c52 (iv_k (x := 0) (k := 0) rfl) ir48 (by decide)
            refine lv_lload hx hb dX10_drawn_72 (lv_at hl 7 rfl) ?_
            refine lv_ldc2 (v := 6364136223846793005) hx hb hown (hts _ w_894) dX10_drawn_74 ?_
            refine lv_lmul hx hb dX10_drawn_77 (lv_topl (fun w56 ew56 => ?_))
            refine lv_ldc2 (v := 1442695040888963407) hx hb hown (hts _ w_895) dX10_drawn_78 ?_
            refine lv_ladd hx hb dX10_drawn_81 (lv_topl (fun w57 ew57 => ?_))
            refine lv_bipush (v := 33) hx hb dX10_drawn_82 (by decide) ?_
            refine lv_lushr hx hb dX10_drawn_84 rfl (lv_topl (fun w58 ew58 => ?_))
            refine lv_lstore (lv' := [(10, .long w58), (9, .int r48), (8, .ref q7), (0, .ref u0), (1, .int u1), (2, .int u2), (3, .int u3), (4, .int u4), (5, .long u5), (7, .int u6)]) hx hb dX10_drawn_85 hl (by decide) rfl (fun ls hl => ?_)
            refine lv_aload_n hx hb dX10_drawn_87 rfl (lv_at hl 3 rfl) ?_
            refine t_getr (tq := 30) C h tf49 hu0 (by decide) wf_10 rfl fl_X10_33 dX10_drawn_88 (fun q59 tq59 => ?_)
            refine lv_aload hx hb dX10_drawn_91 (lv_at hl 2 rfl) ?_
            refine lv_lload hx hb dX10_drawn_93 (lv_at hl 0 rfl) ?_
            refine lv_iload hx hb dX10_drawn_95 (lv_at hl 1 rfl) ?_
            refine lv_i2l hx hb dX10_drawn_97 rfl (i_topL i53 (fun w60 ew60 mw60 iw60 => ?_))
            refine lv_lrem hx hb dX10_drawn_98 (ivl_nz iw60 (by decide)) (lv_topl (fun w61 ew61 => ?_))
            refine lv_l2i hx hb dX10_drawn_99 rfl (i_top (iv_any _) (fun z62 ez62 iz62 => ?_))
            refine lv_iload hx hb dX10_drawn_100 (lv_at hl 9 rfl) ?_
            obtain ⟨_, r63⟩ := t_rec tf49 tq59 (by decide) wf_30
            refine k_i (r_V C h hl (As := [.ref q7, .int z62, .int u6]) (rest := []) (s_X9_follow l D G b0 τ f49 tf49 q59 tq59 q7 tq7 z62 iz62 u6 (iv_w i42 (by decide))) r63 (Cn := RX9) (T := TX9) (N := 4) rfl rfl mk_X9_follow w_885 w_886 w_887 w_888 ⟨Nat.le_of_ble_eq_true rfl, Nat.le_of_ble_eq_true rfl⟩ rfl (Nat.le_of_ble_eq_true rfl) ⟨Nat.le_of_ble_eq_true rfl, Nat.le_of_ble_eq_true rfl⟩ rfl dX10_drawn_102) h (fun r64 f65 H locs p66 h => ?_)
            obtain ⟨ir64, tf65, ogf65⟩ := p66
            have egf65 := Fr.nil2 ogf65
            subst egf65
            exact u_iret C h hr hQ (⟨ir64, tf49, of49⟩) (Nat.le_of_ble_eq_true rfl) (Nat.le_of_ble_eq_true rfl) dX10_drawn_105
          · have c54 : r48.toInt ≤ 0 := Int32.le_iff_toInt_le.mp (iv_nlt c51)
            have i55 : iv r48 (-2147483648) 0 := iv_El c54 ir48 (iv_k (x := 0) (k := 0) rfl) (by decide)
            refine lv_ldc (v := -1000000) hx hb hown (hts _ w_772) dX10_drawn_69 ?_
            exact u_iret C h hr hQ (⟨⟨by decide, by decide⟩, tf49, of49⟩) (Nat.le_of_ble_eq_true rfl) (Nat.le_of_ble_eq_true rfl) dX10_drawn_71
        · have c43 : r33.toInt = 0 := congrArg Int32.toInt c37
          have i44 : iv r33 0 0 := iv_Q c43 ir33 (iv_k (x := 0) (k := 0) rfl) (by decide)
          have i45 := czr33 c43
          refine lv_ldc (v := -1000000) hx hb hown (hts _ w_772) dX10_drawn_46 ?_
          exact u_iret C h hr hQ (⟨⟨by decide, by decide⟩, t, o⟩) (Nat.le_of_ble_eq_true rfl) (Nat.le_of_ble_eq_true rfl) dX10_drawn_48
abbrev rm_s_X10_kernel : Room := { frames := 3, cells := 0, slots := 0, locals := 73 }
set_option maxRecDepth 100000 in
set_option maxHeartbeats 4000000 in
theorem s_X10_kernel (l : Launch) (D : va_G) (G : Nat → Nat) (b0 : Nat) (τ : Nat → Nat) (f : hM) (t : TI G 9 τ f) (u0 : Nat) (hu0 : τ u0 = 10) (u1 : Int32) (hu1 : iv u1 (-2147483648) 2147483647) (u2 : Int32) (hu2 : iv u2 (-2147483648) 2147483647) (u3 : Int32) (hu3 : iv u3 (-2147483648) 2147483647) : mI l yX10_kernel cX10_kernel 5 (.int) rm_s_X10_kernel D G b0 f [.ref u0, .int u1, .int u2, .int u3] (fun r f1 => iv r (-2147483648) 2147483647 ∧ TI G 9 τ f1 ∧ Fr [] τ f f1) := by
  refine met2 (own := RX10) (by decide) rfl (Nat.le_of_ble_eq_true rfl) ?_
  intro p e s m args below meth c ls Q hQ C hr hini hl h
  have hl : lv_has ls 5 [(0, .ref u0), (1, .int u1), (2, .int u2), (3, .int u3)] := hl
  obtain ⟨hx, hb, hml, hown, hts, hE0, hlk⟩ := id C
  have o := Fr.rf [] τ f
  refine lv_aload_n hx hb dX10_kernel_0 rfl (lv_at hl 0 rfl) ?_
  refine t_getr (tq := 12) C h t hu0 (by decide) wf_10 rfl fl_X10_19 dX10_kernel_1 (fun q1 tq1 => ?_)
  refine lv_iload_n hx hb dX10_kernel_4 rfl (lv_at hl 1 rfl) ?_
  obtain ⟨_, r2⟩ := t_rec t tq1 (by decide) wf_12
  refine k_q (r_V C h hl (As := [.int u1]) (rest := []) (s_X0_find l D G b0 τ f t q1 tq1 u1 hu1) r2 (Cn := RX0) (T := TX0) (N := 6) rfl rfl mk_X0_find w_594 w_595 w_596 w_597 ⟨Nat.le_of_ble_eq_true rfl, Nat.le_of_ble_eq_true rfl⟩ rfl (Nat.le_of_ble_eq_true rfl) ⟨Nat.le_of_ble_eq_true rfl, Nat.le_of_ble_eq_true rfl⟩ rfl dX10_kernel_5) h (fun r3 f4 H locs p5 h => ?_)
  obtain ⟨qr3, tf4, ogf4⟩ := p5
  have egf4 := Fr.nil2 ogf4
  subst egf4
  have tr3 := qr3
  refine lv_astoreO (lv' := [(4, va_rf r3), (0, .ref u0), (1, .int u1), (2, .int u2), (3, .int u3)]) hx hb dX10_kernel_8 hl (by decide) rfl (fun ls hl => ?_)
  refine lv_aloadO hx hb dX10_kernel_10 (lv_at hl 0 rfl) ?_
  rcases va_rfc r3 with eq7 | ⟨q7, eq7⟩
  · subst eq7
    have hl : lv_has ls 5 [(4, .null), (0, .ref u0), (1, .int u1), (2, .int u2), (3, .int u3)] := hl
    show W _ _ _ _ _ _ _ _ _ _ _ _ _ _ _ (F0 m 12 ls [.null])
    refine lv_ifnullN (tgt := 29) hx hb dX10_kernel_12 (by decide) ?_
    refine lv_iconst (v := -1) hx hb dX10_kernel_29 (by decide) ?_
    exact u_iret C h hr hQ (⟨⟨by decide, by decide⟩, t, o⟩) (Nat.le_of_ble_eq_true rfl) (Nat.le_of_ble_eq_true rfl) dX10_kernel_30
  · subst eq7
    have tq7 : τ q7 = 1 := tr3 _ rfl
    have hl : lv_has ls 5 [(4, .ref q7), (0, .ref u0), (1, .int u1), (2, .int u2), (3, .int u3)] := hl
    show W _ _ _ _ _ _ _ _ _ _ _ _ _ _ _ (F0 m 12 ls [.ref q7])
    refine lv_ifnull hx hb dX10_kernel_12 ?_
    refine lv_iload_n hx hb dX10_kernel_15 rfl (lv_at hl 3 rfl) ?_
    refine k_i (r_S C h hl (As := [.int u2]) (rest := []) (s_X10_isUnit l D G b0 τ f t u2 hu2) mk_X10_isUnit w_941 w_942 w_943 ⟨Nat.le_of_ble_eq_true rfl, Nat.le_of_ble_eq_true rfl⟩ rfl (Nat.le_of_ble_eq_true rfl) ⟨Nat.le_of_ble_eq_true rfl, Nat.le_of_ble_eq_true rfl⟩ rfl dX10_kernel_16) h (fun r8 f9 H locs p10 h => ?_)
    obtain ⟨ir8, tf9, ogf9, cnr8⟩ := p10
    have egf9 := Fr.nil2 ogf9
    subst egf9
    refine lv_if_eq (tgt := 29) hx hb dX10_kernel_19 (by decide) (fun c11 => ?_) (fun c11 => ?_)
    · have c12 : r8.toInt = 0 := congrArg Int32.toInt c11
      have i13 : iv r8 0 0 := iv_Q c12 ir8 (iv_k (x := 0) (k := 0) rfl) (by decide)
      refine lv_iconst (v := -1) hx hb dX10_kernel_29 (by decide) ?_
      exact u_iret C h hr hQ (⟨⟨by decide, by decide⟩, t, o⟩) (Nat.le_of_ble_eq_true rfl) (Nat.le_of_ble_eq_true rfl) dX10_kernel_30
    · have c14 : r8.toInt ≠ 0 := fun z_ => c11 (Int32.toInt_inj.mp z_)
      have i15 : iv r8 1 1 := iv_Nl c14 ir8 (by decide)
      have i16 := cnr8 c14
      refine lv_iload_n hx hb dX10_kernel_22 rfl (lv_at hl 4 rfl) ?_
      refine k_i (r_S C h hl (As := [.int u3]) (rest := []) (s_X10_isUnit l D G b0 τ f t u3 hu3) mk_X10_isUnit w_941 w_942 w_943 ⟨Nat.le_of_ble_eq_true rfl, Nat.le_of_ble_eq_true rfl⟩ rfl (Nat.le_of_ble_eq_true rfl) ⟨Nat.le_of_ble_eq_true rfl, Nat.le_of_ble_eq_true rfl⟩ rfl dX10_kernel_23) h (fun r17 f18 H locs p19 h => ?_)
      obtain ⟨ir17, tf18, ogf18, cnr17⟩ := p19
      have egf18 := Fr.nil2 ogf18
      subst egf18
      refine lv_if_ne (tgt := 31) hx hb dX10_kernel_26 (by decide) (fun c20 => ?_) (fun c20 => ?_)
      · have c21 : r17.toInt ≠ 0 := fun z_ => c20 (Int32.toInt_inj.mp z_)
        have i22 : iv r17 1 1 := iv_Nl c21 ir17 (by decide)
        have i23 := cnr17 c21
        refine lv_aload hx hb dX10_kernel_31 (lv_at hl 0 rfl) ?_
        refine lv_iload_n hx hb dX10_kernel_33 rfl (lv_at hl 3 rfl) ?_
        refine lv_iload_n hx hb dX10_kernel_34 rfl (lv_at hl 4 rfl) ?_
        refine k_i (r_S C h hl (As := [.ref q7, .int u2, .int u3]) (rest := []) (s_X8_kernelAt l D G b0 τ f t q7 tq7 u2 (iv_w i16 (by decide)) u3 (iv_w i23 (by decide))) mk_X8_kernelAt w_944 w_945 w_946 ⟨Nat.le_of_ble_eq_true rfl, Nat.le_of_ble_eq_true rfl⟩ rfl (Nat.le_of_ble_eq_true rfl) ⟨Nat.le_of_ble_eq_true rfl, Nat.le_of_ble_eq_true rfl⟩ rfl dX10_kernel_35) h (fun r26 f27 H locs p28 h => ?_)
        obtain ⟨ir26, tf27, ogf27⟩ := p28
        have egf27 := Fr.nil2 ogf27
        subst egf27
        exact u_iret C h hr hQ (⟨ir26, t, o⟩) (Nat.le_of_ble_eq_true rfl) (Nat.le_of_ble_eq_true rfl) dX10_kernel_38
      · have c24 : r17.toInt = 0 := congrArg Int32.toInt c20
        have i25 : iv r17 0 0 := iv_Q c24 ir17 (iv_k (x := 0) (k := 0) rfl) (by decide)
        refine lv_iconst (v := -1) hx hb dX10_kernel_29 (by decide) ?_
        exact u_iret C h hr hQ (⟨⟨by decide, by decide⟩, t, o⟩) (Nat.le_of_ble_eq_true rfl) (Nat.le_of_ble_eq_true rfl) dX10_kernel_30
abbrev rm_s_X10_turned : Room := { frames := 3, cells := 0, slots := 0, locals := 71 }
set_option maxRecDepth 100000 in
set_option maxHeartbeats 4000000 in
theorem s_X10_turned (l : Launch) (D : va_G) (G : Nat → Nat) (b0 : Nat) (τ : Nat → Nat) (f : hM) (t : TI G 9 τ f) (u0 : Nat) (hu0 : τ u0 = 10) (u1 : Int32) (hu1 : iv u1 (-2147483648) 2147483647) (u2 : Int32) (hu2 : iv u2 (-2147483648) 2147483647) (u3 : Int32) (hu3 : iv u3 (-2147483648) 2147483647) (u4 : Int32) (hu4 : iv u4 (-2147483648) 2147483647) : mI l yX10_turned cX10_turned 6 (.int) rm_s_X10_turned D G b0 f [.ref u0, .int u1, .int u2, .int u3, .int u4] (fun r f1 => iv r (-1000002) 1000002 ∧ TI G 9 τ f1 ∧ Fr [] τ f f1) := by
  refine met2 (own := RX10) (by decide) rfl (Nat.le_of_ble_eq_true rfl) ?_
  intro p e s m args below meth c ls Q hQ C hr hini hl h
  have hl : lv_has ls 6 [(0, .ref u0), (1, .int u1), (2, .int u2), (3, .int u3), (4, .int u4)] := hl
  obtain ⟨hx, hb, hml, hown, hts, hE0, hlk⟩ := id C
  have o := Fr.rf [] τ f
  refine lv_aload_n hx hb dX10_turned_0 rfl (lv_at hl 0 rfl) ?_
  refine t_getr (tq := 12) C h t hu0 (by decide) wf_10 rfl fl_X10_19 dX10_turned_1 (fun q1 tq1 => ?_)
  refine lv_iload_n hx hb dX10_turned_4 rfl (lv_at hl 1 rfl) ?_
  obtain ⟨_, r2⟩ := t_rec t tq1 (by decide) wf_12
  refine k_q (r_V C h hl (As := [.int u1]) (rest := []) (s_X0_find l D G b0 τ f t q1 tq1 u1 hu1) r2 (Cn := RX0) (T := TX0) (N := 6) rfl rfl mk_X0_find w_594 w_595 w_596 w_597 ⟨Nat.le_of_ble_eq_true rfl, Nat.le_of_ble_eq_true rfl⟩ rfl (Nat.le_of_ble_eq_true rfl) ⟨Nat.le_of_ble_eq_true rfl, Nat.le_of_ble_eq_true rfl⟩ rfl dX10_turned_5) h (fun r3 f4 H locs p5 h => ?_)
  obtain ⟨qr3, tf4, ogf4⟩ := p5
  have egf4 := Fr.nil2 ogf4
  subst egf4
  have tr3 := qr3
  refine lv_astoreO (lv' := [(5, va_rf r3), (0, .ref u0), (1, .int u1), (2, .int u2), (3, .int u3), (4, .int u4)]) hx hb dX10_turned_8 hl (by decide) rfl (fun ls hl => ?_)
  refine lv_aloadO hx hb dX10_turned_10 (lv_at hl 0 rfl) ?_
  rcases va_rfc r3 with eq7 | ⟨q7, eq7⟩
  · subst eq7
    have hl : lv_has ls 6 [(5, .null), (0, .ref u0), (1, .int u1), (2, .int u2), (3, .int u3), (4, .int u4)] := hl
    show W _ _ _ _ _ _ _ _ _ _ _ _ _ _ _ (F0 m 12 ls [.null])
    refine lv_ifnullN (tgt := 39) hx hb dX10_turned_12 (by decide) ?_
    refine lv_iconst (v := -1) hx hb dX10_turned_39 (by decide) ?_
    exact u_iret C h hr hQ (⟨⟨by decide, by decide⟩, t, o⟩) (Nat.le_of_ble_eq_true rfl) (Nat.le_of_ble_eq_true rfl) dX10_turned_40
  · subst eq7
    have tq7 : τ q7 = 1 := tr3 _ rfl
    have hl : lv_has ls 6 [(5, .ref q7), (0, .ref u0), (1, .int u1), (2, .int u2), (3, .int u3), (4, .int u4)] := hl
    show W _ _ _ _ _ _ _ _ _ _ _ _ _ _ _ (F0 m 12 ls [.ref q7])
    refine lv_ifnull hx hb dX10_turned_12 ?_
    refine lv_iload_n hx hb dX10_turned_15 rfl (lv_at hl 3 rfl) ?_
    refine k_i (r_S C h hl (As := [.int u2]) (rest := []) (s_X10_isUnit l D G b0 τ f t u2 hu2) mk_X10_isUnit w_941 w_942 w_943 ⟨Nat.le_of_ble_eq_true rfl, Nat.le_of_ble_eq_true rfl⟩ rfl (Nat.le_of_ble_eq_true rfl) ⟨Nat.le_of_ble_eq_true rfl, Nat.le_of_ble_eq_true rfl⟩ rfl dX10_turned_16) h (fun r8 f9 H locs p10 h => ?_)
    obtain ⟨ir8, tf9, ogf9, cnr8⟩ := p10
    have egf9 := Fr.nil2 ogf9
    subst egf9
    refine lv_if_eq (tgt := 39) hx hb dX10_turned_19 (by decide) (fun c11 => ?_) (fun c11 => ?_)
    · have c12 : r8.toInt = 0 := congrArg Int32.toInt c11
      have i13 : iv r8 0 0 := iv_Q c12 ir8 (iv_k (x := 0) (k := 0) rfl) (by decide)
      refine lv_iconst (v := -1) hx hb dX10_turned_39 (by decide) ?_
      exact u_iret C h hr hQ (⟨⟨by decide, by decide⟩, t, o⟩) (Nat.le_of_ble_eq_true rfl) (Nat.le_of_ble_eq_true rfl) dX10_turned_40
    · have c14 : r8.toInt ≠ 0 := fun z_ => c11 (Int32.toInt_inj.mp z_)
      have i15 : iv r8 1 1 := iv_Nl c14 ir8 (by decide)
      have i16 := cnr8 c14
      refine lv_iload_n hx hb dX10_turned_22 rfl (lv_at hl 4 rfl) ?_
      refine k_i (r_S C h hl (As := [.int u3]) (rest := []) (s_X10_isUnit l D G b0 τ f t u3 hu3) mk_X10_isUnit w_941 w_942 w_943 ⟨Nat.le_of_ble_eq_true rfl, Nat.le_of_ble_eq_true rfl⟩ rfl (Nat.le_of_ble_eq_true rfl) ⟨Nat.le_of_ble_eq_true rfl, Nat.le_of_ble_eq_true rfl⟩ rfl dX10_turned_23) h (fun r17 f18 H locs p19 h => ?_)
      obtain ⟨ir17, tf18, ogf18, cnr17⟩ := p19
      have egf18 := Fr.nil2 ogf18
      subst egf18
      refine lv_if_eq (tgt := 39) hx hb dX10_turned_26 (by decide) (fun c20 => ?_) (fun c20 => ?_)
      · have c21 : r17.toInt = 0 := congrArg Int32.toInt c20
        have i22 : iv r17 0 0 := iv_Q c21 ir17 (iv_k (x := 0) (k := 0) rfl) (by decide)
        refine lv_iconst (v := -1) hx hb dX10_turned_39 (by decide) ?_
        exact u_iret C h hr hQ (⟨⟨by decide, by decide⟩, t, o⟩) (Nat.le_of_ble_eq_true rfl) (Nat.le_of_ble_eq_true rfl) dX10_turned_40
      · have c23 : r17.toInt ≠ 0 := fun z_ => c20 (Int32.toInt_inj.mp z_)
        have i24 : iv r17 1 1 := iv_Nl c23 ir17 (by decide)
        have i25 := cnr17 c23
        refine lv_iload hx hb dX10_turned_29 (lv_at hl 5 rfl) ?_
        refine lv_iconst (v := 0) hx hb dX10_turned_31 (by decide) ?_
        refine lv_iconst (v := 1) hx hb dX10_turned_32 (by decide) ?_
        refine k_i (r_S C h hl (As := [.int u4, .int 0, .int 1]) (rest := []) (s_X10_within l D G b0 τ f t u4 hu4 0 (iv_w (iv_k (x := 0) (k := 0) rfl) (by decide)) 1 (iv_w (iv_k (x := 1) (k := 1) rfl) (by decide))) mk_X10_within w_425 w_426 w_427 ⟨Nat.le_of_ble_eq_true rfl, Nat.le_of_ble_eq_true rfl⟩ rfl (Nat.le_of_ble_eq_true rfl) ⟨Nat.le_of_ble_eq_true rfl, Nat.le_of_ble_eq_true rfl⟩ rfl dX10_turned_33) h (fun r26 f27 H locs p28 h => ?_)
        have n29 : (0 : Int32).toInt = 0 := rfl
        have n30 : (1 : Int32).toInt = 1 := rfl
        obtain ⟨ir26, tf27, ogf27, cnr26, czr26⟩ := p28
        have egf27 := Fr.nil2 ogf27
        subst egf27
        refine lv_if_ne (tgt := 41) hx hb dX10_turned_36 (by decide) (fun c31 => ?_) (fun c31 => ?_)
        · have c32 : r26.toInt ≠ 0 := fun z_ => c31 (Int32.toInt_inj.mp z_)
          have i33 : iv r26 1 1 := iv_Nl c32 ir26 (by decide)
          obtain ⟨i34, i35⟩ := cnr26 c32
          have i36 : iv u4 0 1 := ⟨by omega, by omega⟩
          refine lv_iload hx hb dX10_turned_41 (lv_at hl 5 rfl) ?_
          refine lv_if_ne (tgt := 56) hx hb dX10_turned_43 (by decide) (fun c40 => ?_) (fun c40 => ?_)
          · have c41 : u4.toInt ≠ 0 := fun z_ => c40 (Int32.toInt_inj.mp z_)
            have i42 : iv u4 1 1 := iv_Nl c41 i36 (by decide)
            refine lv_aload hx hb dX10_turned_56 (lv_at hl 0 rfl) ?_
            refine lv_iload_n hx hb dX10_turned_58 rfl (lv_at hl 3 rfl) ?_
            refine lv_iload_n hx hb dX10_turned_59 rfl (lv_at hl 4 rfl) ?_
            refine k_i (r_S C h hl (As := [.ref q7, .int u2, .int u3]) (rest := []) (s_X8_newY l D G b0 τ f t q7 tq7 u2 (iv_w i16 (by decide)) u3 (iv_w i25 (by decide))) mk_X8_newY w_963 w_964 w_965 ⟨Nat.le_of_ble_eq_true rfl, Nat.le_of_ble_eq_true rfl⟩ rfl (Nat.le_of_ble_eq_true rfl) ⟨Nat.le_of_ble_eq_true rfl, Nat.le_of_ble_eq_true rfl⟩ rfl dX10_turned_60) h (fun r45 f46 H locs p47 h => ?_)
            obtain ⟨ir45, tf46, ogf46⟩ := p47
            have egf46 := Fr.nil2 ogf46
            subst egf46
            exact u_iret C h hr hQ (⟨ir45, t, o⟩) (Nat.le_of_ble_eq_true rfl) (Nat.le_of_ble_eq_true rfl) dX10_turned_63
          · have c43 : u4.toInt = 0 := congrArg Int32.toInt c40
            have i44 : iv u4 0 0 := iv_Q c43 i36 (iv_k (x := 0) (k := 0) rfl) (by decide)
            refine lv_aload hx hb dX10_turned_46 (lv_at hl 0 rfl) ?_
            refine lv_iload_n hx hb dX10_turned_48 rfl (lv_at hl 3 rfl) ?_
            refine lv_iload_n hx hb dX10_turned_49 rfl (lv_at hl 4 rfl) ?_
            refine k_i (r_S C h hl (As := [.ref q7, .int u2, .int u3]) (rest := []) (s_X8_newX l D G b0 τ f t q7 tq7 u2 (iv_w i16 (by decide)) u3 (iv_w i25 (by decide))) mk_X8_newX w_957 w_958 w_959 ⟨Nat.le_of_ble_eq_true rfl, Nat.le_of_ble_eq_true rfl⟩ rfl (Nat.le_of_ble_eq_true rfl) ⟨Nat.le_of_ble_eq_true rfl, Nat.le_of_ble_eq_true rfl⟩ rfl dX10_turned_50) h (fun r48 f49 H locs p50 h => ?_)
            obtain ⟨ir48, tf49, ogf49⟩ := p50
            have egf49 := Fr.nil2 ogf49
            subst egf49
            refine lv_goto (tgt := 63) hx hb dX10_turned_53 (by decide) ?_
            exact u_iret C h hr hQ (⟨ir48, t, o⟩) (Nat.le_of_ble_eq_true rfl) (Nat.le_of_ble_eq_true rfl) dX10_turned_63
        · have c37 : r26.toInt = 0 := congrArg Int32.toInt c31
          have i38 : iv r26 0 0 := iv_Q c37 ir26 (iv_k (x := 0) (k := 0) rfl) (by decide)
          have i39 := czr26 c37
          refine lv_iconst (v := -1) hx hb dX10_turned_39 (by decide) ?_
          exact u_iret C h hr hQ (⟨⟨by decide, by decide⟩, t, o⟩) (Nat.le_of_ble_eq_true rfl) (Nat.le_of_ble_eq_true rfl) dX10_turned_40
abbrev rm_s_X10_orbit : Room := { frames := 4, cells := 0, slots := 0, locals := 97 }
set_option maxRecDepth 100000 in
set_option maxHeartbeats 4000000 in
theorem s_X10_orbit (l : Launch) (D : va_G) (G : Nat → Nat) (b0 : Nat) (τ : Nat → Nat) (f : hM) (t : TI G 9 τ f) (u0 : Nat) (hu0 : τ u0 = 10) (u1 : Int32) (hu1 : iv u1 (-2147483648) 2147483647) (u2 : Int32) (hu2 : iv u2 (-2147483648) 2147483647) (u3 : Int32) (hu3 : iv u3 (-2147483648) 2147483647) (u4 : Int32) (hu4 : iv u4 (-2147483648) 2147483647) (u5 : Int32) (hu5 : iv u5 (-2147483648) 2147483647) : mI l yX10_orbit cX10_orbit 9 (.int) rm_s_X10_orbit D G b0 f [.ref u0, .int u1, .int u2, .int u3, .int u4, .int u5] (fun r f1 => iv r (-2147483648) 2147483647 ∧ TI G 9 τ f1 ∧ Fr [36, 80] τ f f1) := by
  refine met2 (own := RX10) (by decide) rfl (Nat.le_of_ble_eq_true rfl) ?_
  intro p e s m args below meth c ls Q hQ C hr hini hl h
  have hl : lv_has ls 9 [(0, .ref u0), (1, .int u1), (2, .int u2), (3, .int u3), (4, .int u4), (5, .int u5)] := hl
  obtain ⟨hx, hb, hml, hown, hts, hE0, hlk⟩ := id C
  have o := Fr.rf [36, 80] τ f
  refine lv_aload_n hx hb dX10_orbit_0 rfl (lv_at hl 0 rfl) ?_
  refine t_getr (tq := 12) C h t hu0 (by decide) wf_10 rfl fl_X10_19 dX10_orbit_1 (fun q1 tq1 => ?_)
  refine lv_iload_n hx hb dX10_orbit_4 rfl (lv_at hl 1 rfl) ?_
  obtain ⟨_, r2⟩ := t_rec t tq1 (by decide) wf_12
  refine k_q (r_V C h hl (As := [.int u1]) (rest := []) (s_X0_find l D G b0 τ f t q1 tq1 u1 hu1) r2 (Cn := RX0) (T := TX0) (N := 6) rfl rfl mk_X0_find w_594 w_595 w_596 w_597 ⟨Nat.le_of_ble_eq_true rfl, Nat.le_of_ble_eq_true rfl⟩ rfl (Nat.le_of_ble_eq_true rfl) ⟨Nat.le_of_ble_eq_true rfl, Nat.le_of_ble_eq_true rfl⟩ rfl dX10_orbit_5) h (fun r3 f4 H locs p5 h => ?_)
  obtain ⟨qr3, tf4, ogf4⟩ := p5
  have egf4 := Fr.nil2 ogf4
  subst egf4
  have tr3 := qr3
  refine lv_astoreO (lv' := [(6, va_rf r3), (0, .ref u0), (1, .int u1), (2, .int u2), (3, .int u3), (4, .int u4), (5, .int u5)]) hx hb dX10_orbit_8 hl (by decide) rfl (fun ls hl => ?_)
  refine lv_iload hx hb dX10_orbit_10 (lv_at hl 5 rfl) ?_
  refine lv_iconst (v := -1) hx hb dX10_orbit_12 (by decide) ?_
  refine lv_icmp_eq (tgt := 26) hx hb dX10_orbit_13 (by decide) (fun c7 => ?_) (fun c7 => ?_)
  · have c8 : u4.toInt = (-1) := congrArg Int32.toInt c7
    have i9 : iv u4 (-1) (-1) := iv_Q c8 hu4 (iv_k (x := (-1)) (k := (-1)) rfl) (by decide)
    refine lv_iconst (v := 1) hx hb dX10_orbit_26 (by decide) ?_
    refine lv_goto (tgt := 31) hx hb dX10_orbit_27 (by decide) ?_
    refine lv_istore (lv' := [(7, .int 1), (6, va_rf r3), (0, .ref u0), (1, .int u1), (2, .int u2), (3, .int u3), (4, .int u4), (5, .int u5)]) hx hb dX10_orbit_31 hl (by decide) (by simp [va_rfcat]) (fun ls hl => ?_)
    refine lv_aloadO hx hb dX10_orbit_33 (lv_at hl 1 rfl) ?_
    rcases va_rfc r3 with eq11 | ⟨q11, eq11⟩
    · subst eq11
      have hl : lv_has ls 9 [(7, .int 1), (6, .null), (0, .ref u0), (1, .int u1), (2, .int u2), (3, .int u3), (4, .int u4), (5, .int u5)] := hl
      show W _ _ _ _ _ _ _ _ _ _ _ _ _ _ _ (F0 m 35 ls [.null])
      refine lv_ifnullN (tgt := 57) hx hb dX10_orbit_35 (by decide) ?_
      refine lv_bipush (v := -2) hx hb dX10_orbit_57 (by decide) ?_
      exact u_iret C h hr hQ (⟨⟨by decide, by decide⟩, t, o⟩) (Nat.le_of_ble_eq_true rfl) (Nat.le_of_ble_eq_true rfl) dX10_orbit_59
    · subst eq11
      have tq11 : τ q11 = 1 := tr3 _ rfl
      have hl : lv_has ls 9 [(7, .int 1), (6, .ref q11), (0, .ref u0), (1, .int u1), (2, .int u2), (3, .int u3), (4, .int u4), (5, .int u5)] := hl
      show W _ _ _ _ _ _ _ _ _ _ _ _ _ _ _ (F0 m 35 ls [.ref q11])
      refine lv_ifnull hx hb dX10_orbit_35 ?_
      refine lv_iload_n hx hb dX10_orbit_38 rfl (lv_at hl 4 rfl) ?_
      refine k_i (r_S C h hl (As := [.int u2]) (rest := []) (s_X10_isUnit l D G b0 τ f t u2 hu2) mk_X10_isUnit w_941 w_942 w_943 ⟨Nat.le_of_ble_eq_true rfl, Nat.le_of_ble_eq_true rfl⟩ rfl (Nat.le_of_ble_eq_true rfl) ⟨Nat.le_of_ble_eq_true rfl, Nat.le_of_ble_eq_true rfl⟩ rfl dX10_orbit_39) h (fun r12 f13 H locs p14 h => ?_)
      obtain ⟨ir12, tf13, ogf13, cnr12⟩ := p14
      have egf13 := Fr.nil2 ogf13
      subst egf13
      refine lv_if_eq (tgt := 57) hx hb dX10_orbit_42 (by decide) (fun c15 => ?_) (fun c15 => ?_)
      · have c16 : r12.toInt = 0 := congrArg Int32.toInt c15
        have i17 : iv r12 0 0 := iv_Q c16 ir12 (iv_k (x := 0) (k := 0) rfl) (by decide)
        refine lv_bipush (v := -2) hx hb dX10_orbit_57 (by decide) ?_
        exact u_iret C h hr hQ (⟨⟨by decide, by decide⟩, t, o⟩) (Nat.le_of_ble_eq_true rfl) (Nat.le_of_ble_eq_true rfl) dX10_orbit_59
      · have c18 : r12.toInt ≠ 0 := fun z_ => c15 (Int32.toInt_inj.mp z_)
        have i19 : iv r12 1 1 := iv_Nl c18 ir12 (by decide)
        have i20 := cnr12 c18
        refine lv_iload_n hx hb dX10_orbit_45 rfl (lv_at hl 5 rfl) ?_
        refine k_i (r_S C h hl (As := [.int u3]) (rest := []) (s_X10_isUnit l D G b0 τ f t u3 hu3) mk_X10_isUnit w_941 w_942 w_943 ⟨Nat.le_of_ble_eq_true rfl, Nat.le_of_ble_eq_true rfl⟩ rfl (Nat.le_of_ble_eq_true rfl) ⟨Nat.le_of_ble_eq_true rfl, Nat.le_of_ble_eq_true rfl⟩ rfl dX10_orbit_46) h (fun r21 f22 H locs p23 h => ?_)
        obtain ⟨ir21, tf22, ogf22, cnr21⟩ := p23
        have egf22 := Fr.nil2 ogf22
        subst egf22
        refine lv_if_eq (tgt := 57) hx hb dX10_orbit_49 (by decide) (fun c24 => ?_) (fun c24 => ?_)
        · have c25 : r21.toInt = 0 := congrArg Int32.toInt c24
          have i26 : iv r21 0 0 := iv_Q c25 ir21 (iv_k (x := 0) (k := 0) rfl) (by decide)
          refine lv_bipush (v := -2) hx hb dX10_orbit_57 (by decide) ?_
          exact u_iret C h hr hQ (⟨⟨by decide, by decide⟩, t, o⟩) (Nat.le_of_ble_eq_true rfl) (Nat.le_of_ble_eq_true rfl) dX10_orbit_59
        · have c27 : r21.toInt ≠ 0 := fun z_ => c24 (Int32.toInt_inj.mp z_)
          have i28 : iv r21 1 1 := iv_Nl c27 ir21 (by decide)
          have i29 := cnr21 c27
          refine lv_iload hx hb dX10_orbit_52 (lv_at hl 0 rfl) ?_
          refine lv_if_ne (tgt := 60) hx hb dX10_orbit_54 (by decide) (fun c30 => ?_) (fun c30 => ?_)
          · refine lv_aload_n hx hb dX10_orbit_60 rfl (lv_at hl 2 rfl) ?_
            refine t_getr (tq := 35) C h t hu0 (by decide) wf_10 rfl fl_X10_40 dX10_orbit_61 (fun q33 tq33 => ?_)
            refine lv_aload hx hb dX10_orbit_64 (lv_at hl 1 rfl) ?_
            refine lv_iload_n hx hb dX10_orbit_66 rfl (lv_at hl 4 rfl) ?_
            refine lv_iload_n hx hb dX10_orbit_67 rfl (lv_at hl 5 rfl) ?_
            obtain ⟨_, r34⟩ := t_rec t tq33 (by decide) wf_35
            refine k_i (r_V C h hl (As := [.ref q11, .int u2, .int u3]) (rest := []) (s_X8_follow l D G b0 τ f t q33 tq33 q11 tq11 u2 (iv_w i20 (by decide)) u3 (iv_w i29 (by decide))) r34 (Cn := RX8) (T := TX8) (N := 2) rfl rfl mk_X8_follow w_970 w_971 w_972 w_973 ⟨Nat.le_of_ble_eq_true rfl, Nat.le_of_ble_eq_true rfl⟩ rfl (Nat.le_of_ble_eq_true rfl) ⟨Nat.le_of_ble_eq_true rfl, Nat.le_of_ble_eq_true rfl⟩ rfl dX10_orbit_68) h (fun r35 f36 H locs p37 h => ?_)
            obtain ⟨ir35, tf36, ogf36⟩ := p37
            have of36 : Fr [36, 80] τ f f36 := Fr.tr o ogf36 (by decide) (by decide)
            refine lv_istore (lv' := [(8, .int r35), (7, .int 1), (6, .ref q11), (0, .ref u0), (1, .int u1), (2, .int u2), (3, .int u3), (4, .int u4), (5, .int u5)]) hx hb dX10_orbit_71 hl (by decide) rfl (fun ls hl => ?_)
            refine lv_iload hx hb dX10_orbit_73 (lv_at hl 0 rfl) ?_
            refine lv_iconst (v := -1) hx hb dX10_orbit_75 (by decide) ?_
            refine lv_icmp_eq (tgt := 85) hx hb dX10_orbit_76 (by decide) (fun c38 => ?_) (fun c38 => ?_)
            · have c39 : r35.toInt = (-1) := congrArg Int32.toInt c38
              have i40 : iv r35 (-1) (-1) := iv_Q c39 ir35 (iv_k (x := (-1)) (k := (-1)) rfl) (by decide)
              refine lv_iload hx hb dX10_orbit_85 (lv_at hl 0 rfl) ?_
              exact u_iret C h hr hQ (⟨(iv_w i40 (by decide)), tf36, of36⟩) (Nat.le_of_ble_eq_true rfl) (Nat.le_of_ble_eq_true rfl) dX10_orbit_87
            · have c41 : r35.toInt ≠ (-1) := fun z_ => c38 (Int32.toInt_inj.mp z_)
              have i42 : iv r35 0 40 := iv_Nl c41 ir35 (by decide)
              refine lv_iload hx hb dX10_orbit_79 (lv_at hl 7 rfl) ?_
              refine lv_iconst (v := -1) hx hb dX10_orbit_81 (by decide) ?_
              refine lv_icmp_ne (tgt := 88) hx hb dX10_orbit_82 (by decide) (fun c43 => ?_) (fun c43 => ?_)
              · have c44 : u4.toInt ≠ (-1) := fun z_ => c43 (Int32.toInt_inj.mp z_)
                exact (iv_cn_ c44 i9 (iv_k (x := (-1)) (k := (-1)) rfl) (by decide)).elim
              · have c45 : u4.toInt = (-1) := congrArg Int32.toInt c43
                refine lv_iload hx hb dX10_orbit_85 (lv_at hl 0 rfl) ?_
                exact u_iret C h hr hQ (⟨(iv_w i42 (by decide)), tf36, of36⟩) (Nat.le_of_ble_eq_true rfl) (Nat.le_of_ble_eq_true rfl) dX10_orbit_87
          · exact absurd c30 (by decide)
  · have c10 : u4.toInt ≠ (-1) := fun z_ => c7 (Int32.toInt_inj.mp z_)
    refine lv_iload hx hb dX10_orbit_16 (lv_at hl 6 rfl) ?_
    refine lv_iconst (v := 0) hx hb dX10_orbit_18 (by decide) ?_
    refine lv_iconst (v := 1) hx hb dX10_orbit_19 (by decide) ?_
    refine k_i (r_S C h hl (As := [.int u5, .int 0, .int 1]) (rest := []) (s_X10_within l D G b0 τ f t u5 hu5 0 (iv_w (iv_k (x := 0) (k := 0) rfl) (by decide)) 1 (iv_w (iv_k (x := 1) (k := 1) rfl) (by decide))) mk_X10_within w_425 w_426 w_427 ⟨Nat.le_of_ble_eq_true rfl, Nat.le_of_ble_eq_true rfl⟩ rfl (Nat.le_of_ble_eq_true rfl) ⟨Nat.le_of_ble_eq_true rfl, Nat.le_of_ble_eq_true rfl⟩ rfl dX10_orbit_20) h (fun r46 f47 H locs p48 h => ?_)
    have n49 : (0 : Int32).toInt = 0 := rfl
    have n50 : (1 : Int32).toInt = 1 := rfl
    obtain ⟨ir46, tf47, ogf47, cnr46, czr46⟩ := p48
    have egf47 := Fr.nil2 ogf47
    subst egf47
    refine lv_if_eq (tgt := 30) hx hb dX10_orbit_23 (by decide) (fun c51 => ?_) (fun c51 => ?_)
    · have c52 : r46.toInt = 0 := congrArg Int32.toInt c51
      have i53 : iv r46 0 0 := iv_Q c52 ir46 (iv_k (x := 0) (k := 0) rfl) (by decide)
      have i54 := czr46 c52
      refine lv_iconst (v := 0) hx hb dX10_orbit_30 (by decide) ?_
      refine lv_istore (lv' := [(7, .int 0), (6, va_rf r3), (0, .ref u0), (1, .int u1), (2, .int u2), (3, .int u3), (4, .int u4), (5, .int u5)]) hx hb dX10_orbit_31 hl (by decide) (by simp [va_rfcat]) (fun ls hl => ?_)
      refine lv_aloadO hx hb dX10_orbit_33 (lv_at hl 1 rfl) ?_
      rcases va_rfc r3 with eq60 | ⟨q60, eq60⟩
      · subst eq60
        have hl : lv_has ls 9 [(7, .int 0), (6, .null), (0, .ref u0), (1, .int u1), (2, .int u2), (3, .int u3), (4, .int u4), (5, .int u5)] := hl
        show W _ _ _ _ _ _ _ _ _ _ _ _ _ _ _ (F0 m 35 ls [.null])
        refine lv_ifnullN (tgt := 57) hx hb dX10_orbit_35 (by decide) ?_
        refine lv_bipush (v := -2) hx hb dX10_orbit_57 (by decide) ?_
        exact u_iret C h hr hQ (⟨⟨by decide, by decide⟩, t, o⟩) (Nat.le_of_ble_eq_true rfl) (Nat.le_of_ble_eq_true rfl) dX10_orbit_59
      · subst eq60
        have tq60 : τ q60 = 1 := tr3 _ rfl
        have hl : lv_has ls 9 [(7, .int 0), (6, .ref q60), (0, .ref u0), (1, .int u1), (2, .int u2), (3, .int u3), (4, .int u4), (5, .int u5)] := hl
        show W _ _ _ _ _ _ _ _ _ _ _ _ _ _ _ (F0 m 35 ls [.ref q60])
        refine lv_ifnull hx hb dX10_orbit_35 ?_
        refine lv_iload_n hx hb dX10_orbit_38 rfl (lv_at hl 4 rfl) ?_
        refine k_i (r_S C h hl (As := [.int u2]) (rest := []) (s_X10_isUnit l D G b0 τ f t u2 hu2) mk_X10_isUnit w_941 w_942 w_943 ⟨Nat.le_of_ble_eq_true rfl, Nat.le_of_ble_eq_true rfl⟩ rfl (Nat.le_of_ble_eq_true rfl) ⟨Nat.le_of_ble_eq_true rfl, Nat.le_of_ble_eq_true rfl⟩ rfl dX10_orbit_39) h (fun r61 f62 H locs p63 h => ?_)
        obtain ⟨ir61, tf62, ogf62, cnr61⟩ := p63
        have egf62 := Fr.nil2 ogf62
        subst egf62
        refine lv_if_eq (tgt := 57) hx hb dX10_orbit_42 (by decide) (fun c64 => ?_) (fun c64 => ?_)
        · have c65 : r61.toInt = 0 := congrArg Int32.toInt c64
          have i66 : iv r61 0 0 := iv_Q c65 ir61 (iv_k (x := 0) (k := 0) rfl) (by decide)
          refine lv_bipush (v := -2) hx hb dX10_orbit_57 (by decide) ?_
          exact u_iret C h hr hQ (⟨⟨by decide, by decide⟩, t, o⟩) (Nat.le_of_ble_eq_true rfl) (Nat.le_of_ble_eq_true rfl) dX10_orbit_59
        · have c67 : r61.toInt ≠ 0 := fun z_ => c64 (Int32.toInt_inj.mp z_)
          have i68 : iv r61 1 1 := iv_Nl c67 ir61 (by decide)
          have i69 := cnr61 c67
          refine lv_iload_n hx hb dX10_orbit_45 rfl (lv_at hl 5 rfl) ?_
          refine k_i (r_S C h hl (As := [.int u3]) (rest := []) (s_X10_isUnit l D G b0 τ f t u3 hu3) mk_X10_isUnit w_941 w_942 w_943 ⟨Nat.le_of_ble_eq_true rfl, Nat.le_of_ble_eq_true rfl⟩ rfl (Nat.le_of_ble_eq_true rfl) ⟨Nat.le_of_ble_eq_true rfl, Nat.le_of_ble_eq_true rfl⟩ rfl dX10_orbit_46) h (fun r70 f71 H locs p72 h => ?_)
          obtain ⟨ir70, tf71, ogf71, cnr70⟩ := p72
          have egf71 := Fr.nil2 ogf71
          subst egf71
          refine lv_if_eq (tgt := 57) hx hb dX10_orbit_49 (by decide) (fun c73 => ?_) (fun c73 => ?_)
          · have c74 : r70.toInt = 0 := congrArg Int32.toInt c73
            have i75 : iv r70 0 0 := iv_Q c74 ir70 (iv_k (x := 0) (k := 0) rfl) (by decide)
            refine lv_bipush (v := -2) hx hb dX10_orbit_57 (by decide) ?_
            exact u_iret C h hr hQ (⟨⟨by decide, by decide⟩, t, o⟩) (Nat.le_of_ble_eq_true rfl) (Nat.le_of_ble_eq_true rfl) dX10_orbit_59
          · have c76 : r70.toInt ≠ 0 := fun z_ => c73 (Int32.toInt_inj.mp z_)
            have i77 : iv r70 1 1 := iv_Nl c76 ir70 (by decide)
            have i78 := cnr70 c76
            refine lv_iload hx hb dX10_orbit_52 (lv_at hl 0 rfl) ?_
            refine lv_if_ne (tgt := 60) hx hb dX10_orbit_54 (by decide) (fun c79 => ?_) (fun c79 => ?_)
            · exact absurd c79 (by decide)
            · refine lv_bipush (v := -2) hx hb dX10_orbit_57 (by decide) ?_
              exact u_iret C h hr hQ (⟨⟨by decide, by decide⟩, t, o⟩) (Nat.le_of_ble_eq_true rfl) (Nat.le_of_ble_eq_true rfl) dX10_orbit_59
    · have c55 : r46.toInt ≠ 0 := fun z_ => c51 (Int32.toInt_inj.mp z_)
      have i56 : iv r46 1 1 := iv_Nl c55 ir46 (by decide)
      obtain ⟨i57, i58⟩ := cnr46 c55
      have i59 : iv u5 0 1 := ⟨by omega, by omega⟩
      refine lv_iconst (v := 1) hx hb dX10_orbit_26 (by decide) ?_
      refine lv_goto (tgt := 31) hx hb dX10_orbit_27 (by decide) ?_
      refine lv_istore (lv' := [(7, .int 1), (6, va_rf r3), (0, .ref u0), (1, .int u1), (2, .int u2), (3, .int u3), (4, .int u4), (5, .int u5)]) hx hb dX10_orbit_31 hl (by decide) (by simp [va_rfcat]) (fun ls hl => ?_)
      refine lv_aloadO hx hb dX10_orbit_33 (lv_at hl 1 rfl) ?_
      rcases va_rfc r3 with eq82 | ⟨q82, eq82⟩
      · subst eq82
        have hl : lv_has ls 9 [(7, .int 1), (6, .null), (0, .ref u0), (1, .int u1), (2, .int u2), (3, .int u3), (4, .int u4), (5, .int u5)] := hl
        show W _ _ _ _ _ _ _ _ _ _ _ _ _ _ _ (F0 m 35 ls [.null])
        refine lv_ifnullN (tgt := 57) hx hb dX10_orbit_35 (by decide) ?_
        refine lv_bipush (v := -2) hx hb dX10_orbit_57 (by decide) ?_
        exact u_iret C h hr hQ (⟨⟨by decide, by decide⟩, t, o⟩) (Nat.le_of_ble_eq_true rfl) (Nat.le_of_ble_eq_true rfl) dX10_orbit_59
      · subst eq82
        have tq82 : τ q82 = 1 := tr3 _ rfl
        have hl : lv_has ls 9 [(7, .int 1), (6, .ref q82), (0, .ref u0), (1, .int u1), (2, .int u2), (3, .int u3), (4, .int u4), (5, .int u5)] := hl
        show W _ _ _ _ _ _ _ _ _ _ _ _ _ _ _ (F0 m 35 ls [.ref q82])
        refine lv_ifnull hx hb dX10_orbit_35 ?_
        refine lv_iload_n hx hb dX10_orbit_38 rfl (lv_at hl 4 rfl) ?_
        refine k_i (r_S C h hl (As := [.int u2]) (rest := []) (s_X10_isUnit l D G b0 τ f t u2 hu2) mk_X10_isUnit w_941 w_942 w_943 ⟨Nat.le_of_ble_eq_true rfl, Nat.le_of_ble_eq_true rfl⟩ rfl (Nat.le_of_ble_eq_true rfl) ⟨Nat.le_of_ble_eq_true rfl, Nat.le_of_ble_eq_true rfl⟩ rfl dX10_orbit_39) h (fun r83 f84 H locs p85 h => ?_)
        obtain ⟨ir83, tf84, ogf84, cnr83⟩ := p85
        have egf84 := Fr.nil2 ogf84
        subst egf84
        refine lv_if_eq (tgt := 57) hx hb dX10_orbit_42 (by decide) (fun c86 => ?_) (fun c86 => ?_)
        · have c87 : r83.toInt = 0 := congrArg Int32.toInt c86
          have i88 : iv r83 0 0 := iv_Q c87 ir83 (iv_k (x := 0) (k := 0) rfl) (by decide)
          refine lv_bipush (v := -2) hx hb dX10_orbit_57 (by decide) ?_
          exact u_iret C h hr hQ (⟨⟨by decide, by decide⟩, t, o⟩) (Nat.le_of_ble_eq_true rfl) (Nat.le_of_ble_eq_true rfl) dX10_orbit_59
        · have c89 : r83.toInt ≠ 0 := fun z_ => c86 (Int32.toInt_inj.mp z_)
          have i90 : iv r83 1 1 := iv_Nl c89 ir83 (by decide)
          have i91 := cnr83 c89
          refine lv_iload_n hx hb dX10_orbit_45 rfl (lv_at hl 5 rfl) ?_
          refine k_i (r_S C h hl (As := [.int u3]) (rest := []) (s_X10_isUnit l D G b0 τ f t u3 hu3) mk_X10_isUnit w_941 w_942 w_943 ⟨Nat.le_of_ble_eq_true rfl, Nat.le_of_ble_eq_true rfl⟩ rfl (Nat.le_of_ble_eq_true rfl) ⟨Nat.le_of_ble_eq_true rfl, Nat.le_of_ble_eq_true rfl⟩ rfl dX10_orbit_46) h (fun r92 f93 H locs p94 h => ?_)
          obtain ⟨ir92, tf93, ogf93, cnr92⟩ := p94
          have egf93 := Fr.nil2 ogf93
          subst egf93
          refine lv_if_eq (tgt := 57) hx hb dX10_orbit_49 (by decide) (fun c95 => ?_) (fun c95 => ?_)
          · have c96 : r92.toInt = 0 := congrArg Int32.toInt c95
            have i97 : iv r92 0 0 := iv_Q c96 ir92 (iv_k (x := 0) (k := 0) rfl) (by decide)
            refine lv_bipush (v := -2) hx hb dX10_orbit_57 (by decide) ?_
            exact u_iret C h hr hQ (⟨⟨by decide, by decide⟩, t, o⟩) (Nat.le_of_ble_eq_true rfl) (Nat.le_of_ble_eq_true rfl) dX10_orbit_59
          · have c98 : r92.toInt ≠ 0 := fun z_ => c95 (Int32.toInt_inj.mp z_)
            have i99 : iv r92 1 1 := iv_Nl c98 ir92 (by decide)
            have i100 := cnr92 c98
            refine lv_iload hx hb dX10_orbit_52 (lv_at hl 0 rfl) ?_
            refine lv_if_ne (tgt := 60) hx hb dX10_orbit_54 (by decide) (fun c101 => ?_) (fun c101 => ?_)
            · refine lv_aload_n hx hb dX10_orbit_60 rfl (lv_at hl 2 rfl) ?_
              refine t_getr (tq := 35) C h t hu0 (by decide) wf_10 rfl fl_X10_40 dX10_orbit_61 (fun q104 tq104 => ?_)
              refine lv_aload hx hb dX10_orbit_64 (lv_at hl 1 rfl) ?_
              refine lv_iload_n hx hb dX10_orbit_66 rfl (lv_at hl 4 rfl) ?_
              refine lv_iload_n hx hb dX10_orbit_67 rfl (lv_at hl 5 rfl) ?_
              obtain ⟨_, r105⟩ := t_rec t tq104 (by decide) wf_35
              refine k_i (r_V C h hl (As := [.ref q82, .int u2, .int u3]) (rest := []) (s_X8_follow l D G b0 τ f t q104 tq104 q82 tq82 u2 (iv_w i91 (by decide)) u3 (iv_w i100 (by decide))) r105 (Cn := RX8) (T := TX8) (N := 2) rfl rfl mk_X8_follow w_970 w_971 w_972 w_973 ⟨Nat.le_of_ble_eq_true rfl, Nat.le_of_ble_eq_true rfl⟩ rfl (Nat.le_of_ble_eq_true rfl) ⟨Nat.le_of_ble_eq_true rfl, Nat.le_of_ble_eq_true rfl⟩ rfl dX10_orbit_68) h (fun r106 f107 H locs p108 h => ?_)
              obtain ⟨ir106, tf107, ogf107⟩ := p108
              have of107 : Fr [36, 80] τ f f107 := Fr.tr o ogf107 (by decide) (by decide)
              refine lv_istore (lv' := [(8, .int r106), (7, .int 1), (6, .ref q82), (0, .ref u0), (1, .int u1), (2, .int u2), (3, .int u3), (4, .int u4), (5, .int u5)]) hx hb dX10_orbit_71 hl (by decide) rfl (fun ls hl => ?_)
              refine lv_iload hx hb dX10_orbit_73 (lv_at hl 0 rfl) ?_
              refine lv_iconst (v := -1) hx hb dX10_orbit_75 (by decide) ?_
              refine lv_icmp_eq (tgt := 85) hx hb dX10_orbit_76 (by decide) (fun c109 => ?_) (fun c109 => ?_)
              · have c110 : r106.toInt = (-1) := congrArg Int32.toInt c109
                have i111 : iv r106 (-1) (-1) := iv_Q c110 ir106 (iv_k (x := (-1)) (k := (-1)) rfl) (by decide)
                refine lv_iload hx hb dX10_orbit_85 (lv_at hl 0 rfl) ?_
                exact u_iret C h hr hQ (⟨(iv_w i111 (by decide)), tf107, of107⟩) (Nat.le_of_ble_eq_true rfl) (Nat.le_of_ble_eq_true rfl) dX10_orbit_87
              · have c112 : r106.toInt ≠ (-1) := fun z_ => c109 (Int32.toInt_inj.mp z_)
                have i113 : iv r106 0 40 := iv_Nl c112 ir106 (by decide)
                refine lv_iload hx hb dX10_orbit_79 (lv_at hl 7 rfl) ?_
                refine lv_iconst (v := -1) hx hb dX10_orbit_81 (by decide) ?_
                refine lv_icmp_ne (tgt := 88) hx hb dX10_orbit_82 (by decide) (fun c114 => ?_) (fun c114 => ?_)
                · have c115 : u4.toInt ≠ (-1) := fun z_ => c114 (Int32.toInt_inj.mp z_)
                  refine lv_iload hx hb dX10_orbit_88 (lv_at hl 7 rfl) ?_
                  refine lv_iconst (v := 0) hx hb dX10_orbit_90 (by decide) ?_
                  refine lv_iload hx hb dX10_orbit_91 (lv_at hl 0 rfl) ?_
                  refine lv_iconst (v := 1) hx hb dX10_orbit_93 (by decide) ?_
                  refine i_subk hx hb dX10_orbit_94 i113 (k := 1) rfl (lo := (-1)) (hi := 39) (by decide) (fun z118 ez118 mz118 iz118 => ?_)
                  refine k_i (r_S C h hl (As := [.int u4, .int 0, .int z118]) (rest := []) (s_X10_within l D G b0 τ f107 tf107 u4 hu4 0 (iv_w (iv_k (x := 0) (k := 0) rfl) (by decide)) z118 (iv_w iz118 (by decide))) mk_X10_within w_425 w_426 w_427 ⟨Nat.le_of_ble_eq_true rfl, Nat.le_of_ble_eq_true rfl⟩ rfl (Nat.le_of_ble_eq_true rfl) ⟨Nat.le_of_ble_eq_true rfl, Nat.le_of_ble_eq_true rfl⟩ rfl dX10_orbit_95) h (fun r119 f120 H locs p121 h => ?_)
                  have n122 : (0 : Int32).toInt = 0 := rfl
                  obtain ⟨ir119, tf120, ogf120, cnr119, czr119⟩ := p121
                  have egf120 := Fr.nil2 ogf120
                  subst egf120
                  refine lv_if_ne (tgt := 104) hx hb dX10_orbit_98 (by decide) (fun c123 => ?_) (fun c123 => ?_)
                  · have c124 : r119.toInt ≠ 0 := fun z_ => c123 (Int32.toInt_inj.mp z_)
                    have i125 : iv r119 1 1 := iv_Nl c124 ir119 (by decide)
                    obtain ⟨i126, i127⟩ := cnr119 c124
                    have i128 : iv u4 0 39 := ⟨by omega, by omega⟩
                    refine lv_iload hx hb dX10_orbit_104 (lv_at hl 8 rfl) ?_
                    refine lv_if_ne (tgt := 122) hx hb dX10_orbit_106 (by decide) (fun c132 => ?_) (fun c132 => ?_)
                    · have c133 : u5.toInt ≠ 0 := fun z_ => c132 (Int32.toInt_inj.mp z_)
                      have i134 : iv u5 1 1 := iv_Nl c133 i59 (by decide)
                      refine lv_aload_n hx hb dX10_orbit_122 rfl (lv_at hl 3 rfl) ?_
                      refine t_getr (tq := 35) C h tf107 hu0 (by decide) wf_10 rfl fl_X10_40 dX10_orbit_123 (fun q137 tq137 => ?_)
                      refine t_getr (tq := 80) C h tf107 tq137 (by decide) wf_35 rfl fl_X10_304 dX10_orbit_126 (fun q138 tq138 => ?_)
                      refine lv_iload hx hb dX10_orbit_129 (lv_at hl 7 rfl) ?_
                      refine t_iald C h tf107 tq138 (by decide) wf_80 (iv_in i128 (by decide)) dX10_orbit_131 (fun z139 iz139 => ?_)
                      exact u_iret C h hr hQ (⟨iz139, tf107, of107⟩) (Nat.le_of_ble_eq_true rfl) (Nat.le_of_ble_eq_true rfl) dX10_orbit_132
                    · have c135 : u5.toInt = 0 := congrArg Int32.toInt c132
                      have i136 : iv u5 0 0 := iv_Q c135 i59 (iv_k (x := 0) (k := 0) rfl) (by decide)
                      refine lv_aload_n hx hb dX10_orbit_109 rfl (lv_at hl 3 rfl) ?_
                      refine t_getr (tq := 35) C h tf107 hu0 (by decide) wf_10 rfl fl_X10_40 dX10_orbit_110 (fun q140 tq140 => ?_)
                      refine t_getr (tq := 36) C h tf107 tq140 (by decide) wf_35 rfl fl_X10_301 dX10_orbit_113 (fun q141 tq141 => ?_)
                      refine lv_iload hx hb dX10_orbit_116 (lv_at hl 7 rfl) ?_
                      refine t_iald C h tf107 tq141 (by decide) wf_36 (iv_in i128 (by decide)) dX10_orbit_118 (fun z142 iz142 => ?_)
                      refine lv_goto (tgt := 132) hx hb dX10_orbit_119 (by decide) ?_
                      exact u_iret C h hr hQ (⟨iz142, tf107, of107⟩) (Nat.le_of_ble_eq_true rfl) (Nat.le_of_ble_eq_true rfl) dX10_orbit_132
                  · have c129 : r119.toInt = 0 := congrArg Int32.toInt c123
                    have i130 : iv r119 0 0 := iv_Q c129 ir119 (iv_k (x := 0) (k := 0) rfl) (by decide)
                    have i131 := czr119 c129
                    refine lv_bipush (v := -2) hx hb dX10_orbit_101 (by decide) ?_
                    exact u_iret C h hr hQ (⟨⟨by decide, by decide⟩, tf107, of107⟩) (Nat.le_of_ble_eq_true rfl) (Nat.le_of_ble_eq_true rfl) dX10_orbit_103
                · have c116 : u4.toInt = (-1) := congrArg Int32.toInt c114
                  have i117 : iv u4 (-1) (-1) := iv_Q c116 hu4 (iv_k (x := (-1)) (k := (-1)) rfl) (by decide)
                  refine lv_iload hx hb dX10_orbit_85 (lv_at hl 0 rfl) ?_
                  exact u_iret C h hr hQ (⟨(iv_w i113 (by decide)), tf107, of107⟩) (Nat.le_of_ble_eq_true rfl) (Nat.le_of_ble_eq_true rfl) dX10_orbit_87
            · exact absurd c101 (by decide)
abbrev rm_s_X10_group : Room := { frames := 5, cells := 0, slots := 0, locals := 121 }
set_option maxRecDepth 100000 in
set_option maxHeartbeats 4000000 in
theorem s_X10_group (l : Launch) (D : va_G) (G : Nat → Nat) (b0 : Nat) (τ : Nat → Nat) (f : hM) (t : TI G 9 τ f) (u0 : Nat) (hu0 : τ u0 = 10) (u1 : Int32) (hu1 : iv u1 (-2147483648) 2147483647) : mI l yX10_group cX10_group 3 (.int) rm_s_X10_group D G b0 f [.ref u0, .int u1] (fun r f1 => iv r (-2) 40 ∧ TI G 9 τ f1 ∧ Fr [36, 80] τ f f1) := by
  refine met2 (own := RX10) (by decide) rfl (Nat.le_of_ble_eq_true rfl) ?_
  intro p e s m args below meth c ls Q hQ C hr hini hl h
  have hl : lv_has ls 3 [(0, .ref u0), (1, .int u1)] := hl
  obtain ⟨hx, hb, hml, hown, hts, hE0, hlk⟩ := id C
  have o := Fr.rf [36, 80] τ f
  refine lv_aload_n hx hb dX10_group_0 rfl (lv_at hl 0 rfl) ?_
  refine t_getr (tq := 12) C h t hu0 (by decide) wf_10 rfl fl_X10_19 dX10_group_1 (fun q1 tq1 => ?_)
  refine lv_iload_n hx hb dX10_group_4 rfl (lv_at hl 1 rfl) ?_
  obtain ⟨_, r2⟩ := t_rec t tq1 (by decide) wf_12
  refine k_q (r_V C h hl (As := [.int u1]) (rest := []) (s_X0_find l D G b0 τ f t q1 tq1 u1 hu1) r2 (Cn := RX0) (T := TX0) (N := 6) rfl rfl mk_X0_find w_594 w_595 w_596 w_597 ⟨Nat.le_of_ble_eq_true rfl, Nat.le_of_ble_eq_true rfl⟩ rfl (Nat.le_of_ble_eq_true rfl) ⟨Nat.le_of_ble_eq_true rfl, Nat.le_of_ble_eq_true rfl⟩ rfl dX10_group_5) h (fun r3 f4 H locs p5 h => ?_)
  obtain ⟨qr3, tf4, ogf4⟩ := p5
  have egf4 := Fr.nil2 ogf4
  subst egf4
  have tr3 := qr3
  refine lv_astore_nO (lv' := [(2, va_rf r3), (0, .ref u0), (1, .int u1)]) hx hb dX10_group_8 rfl hl (by decide) rfl (fun ls hl => ?_)
  refine lv_aload_nO hx hb dX10_group_9 rfl (lv_at hl 0 rfl) ?_
  rcases va_rfc r3 with eq7 | ⟨q7, eq7⟩
  · subst eq7
    have hl : lv_has ls 3 [(2, .null), (0, .ref u0), (1, .int u1)] := hl
    show W _ _ _ _ _ _ _ _ _ _ _ _ _ _ _ (F0 m 10 ls [.null])
    refine lv_ifnonnullN hx hb dX10_group_10 ?_
    refine lv_bipush (v := -2) hx hb dX10_group_13 (by decide) ?_
    refine lv_goto (tgt := 26) hx hb dX10_group_15 (by decide) ?_
    exact u_iret C h hr hQ (⟨⟨by decide, by decide⟩, t, o⟩) (Nat.le_of_ble_eq_true rfl) (Nat.le_of_ble_eq_true rfl) dX10_group_26
  · subst eq7
    have tq7 : τ q7 = 1 := tr3 _ rfl
    have hl : lv_has ls 3 [(2, .ref q7), (0, .ref u0), (1, .int u1)] := hl
    show W _ _ _ _ _ _ _ _ _ _ _ _ _ _ _ (F0 m 10 ls [.ref q7])
    refine lv_ifnonnull (tgt := 18) hx hb dX10_group_10 (by decide) ?_
    refine lv_aload_n hx hb dX10_group_18 rfl (lv_at hl 1 rfl) ?_
    refine t_getr (tq := 35) C h t hu0 (by decide) wf_10 rfl fl_X10_40 dX10_group_19 (fun q8 tq8 => ?_)
    refine lv_aload_n hx hb dX10_group_22 rfl (lv_at hl 0 rfl) ?_
    obtain ⟨_, r9⟩ := t_rec t tq8 (by decide) wf_35
    refine k_i (r_V C h hl (As := [.ref q7]) (rest := []) (s_X8_greatest l D G b0 τ f t q8 tq8 q7 tq7) r9 (Cn := RX8) (T := TX8) (N := 2) rfl rfl mk_X8_greatest w_980 w_981 w_982 w_983 ⟨Nat.le_of_ble_eq_true rfl, Nat.le_of_ble_eq_true rfl⟩ rfl (Nat.le_of_ble_eq_true rfl) ⟨Nat.le_of_ble_eq_true rfl, Nat.le_of_ble_eq_true rfl⟩ rfl dX10_group_23) h (fun r10 f11 H locs p12 h => ?_)
    obtain ⟨ir10, tf11, ogf11⟩ := p12
    have of11 : Fr [36, 80] τ f f11 := Fr.tr o ogf11 (by decide) (by decide)
    exact u_iret C h hr hQ (⟨(iv_w ir10 (by decide)), tf11, of11⟩) (Nat.le_of_ble_eq_true rfl) (Nat.le_of_ble_eq_true rfl) dX10_group_26
abbrev rm_s_X10_sum : Room := { frames := 4, cells := 0, slots := 0, locals := 97 }
set_option maxRecDepth 100000 in
set_option maxHeartbeats 4000000 in
theorem s_X10_sum (l : Launch) (D : va_G) (G : Nat → Nat) (b0 : Nat) (τ : Nat → Nat) (f : hM) (t : TI G 9 τ f) (u0 : Nat) (hu0 : τ u0 = 10) (u1 : Int32) (hu1 : iv u1 (-2147483648) 2147483647) (u2 : Int32) (hu2 : iv u2 (-2147483648) 2147483647) (u3 : Int32) (hu3 : iv u3 (-2147483648) 2147483647) : mI l yX10_sum cX10_sum 6 (.int) rm_s_X10_sum D G b0 f [.ref u0, .int u1, .int u2, .int u3] (fun r f1 => iv r (-2147483648) 2147483647 ∧ TI G 9 τ f1 ∧ Fr [36, 80] τ f f1) := by
  refine met2 (own := RX10) (by decide) rfl (Nat.le_of_ble_eq_true rfl) ?_
  intro p e s m args below meth c ls Q hQ C hr hini hl h
  have hl : lv_has ls 6 [(0, .ref u0), (1, .int u1), (2, .int u2), (3, .int u3)] := hl
  obtain ⟨hx, hb, hml, hown, hts, hE0, hlk⟩ := id C
  have o := Fr.rf [36, 80] τ f
  refine lv_aload_n hx hb dX10_sum_0 rfl (lv_at hl 0 rfl) ?_
  refine t_getr (tq := 12) C h t hu0 (by decide) wf_10 rfl fl_X10_19 dX10_sum_1 (fun q1 tq1 => ?_)
  refine lv_iload_n hx hb dX10_sum_4 rfl (lv_at hl 1 rfl) ?_
  obtain ⟨_, r2⟩ := t_rec t tq1 (by decide) wf_12
  refine k_q (r_V C h hl (As := [.int u1]) (rest := []) (s_X0_find l D G b0 τ f t q1 tq1 u1 hu1) r2 (Cn := RX0) (T := TX0) (N := 6) rfl rfl mk_X0_find w_594 w_595 w_596 w_597 ⟨Nat.le_of_ble_eq_true rfl, Nat.le_of_ble_eq_true rfl⟩ rfl (Nat.le_of_ble_eq_true rfl) ⟨Nat.le_of_ble_eq_true rfl, Nat.le_of_ble_eq_true rfl⟩ rfl dX10_sum_5) h (fun r3 f4 H locs p5 h => ?_)
  obtain ⟨qr3, tf4, ogf4⟩ := p5
  have egf4 := Fr.nil2 ogf4
  subst egf4
  have tr3 := qr3
  refine lv_astoreO (lv' := [(4, va_rf r3), (0, .ref u0), (1, .int u1), (2, .int u2), (3, .int u3)]) hx hb dX10_sum_8 hl (by decide) rfl (fun ls hl => ?_)
  refine lv_aloadO hx hb dX10_sum_10 (lv_at hl 0 rfl) ?_
  rcases va_rfc r3 with eq7 | ⟨q7, eq7⟩
  · subst eq7
    have hl : lv_has ls 6 [(4, .null), (0, .ref u0), (1, .int u1), (2, .int u2), (3, .int u3)] := hl
    show W _ _ _ _ _ _ _ _ _ _ _ _ _ _ _ (F0 m 12 ls [.null])
    refine lv_ifnullN (tgt := 29) hx hb dX10_sum_12 (by decide) ?_
    refine lv_bipush (v := -2) hx hb dX10_sum_29 (by decide) ?_
    exact u_iret C h hr hQ (⟨⟨by decide, by decide⟩, t, o⟩) (Nat.le_of_ble_eq_true rfl) (Nat.le_of_ble_eq_true rfl) dX10_sum_31
  · subst eq7
    have tq7 : τ q7 = 1 := tr3 _ rfl
    have hl : lv_has ls 6 [(4, .ref q7), (0, .ref u0), (1, .int u1), (2, .int u2), (3, .int u3)] := hl
    show W _ _ _ _ _ _ _ _ _ _ _ _ _ _ _ (F0 m 12 ls [.ref q7])
    refine lv_ifnull hx hb dX10_sum_12 ?_
    refine lv_iload_n hx hb dX10_sum_15 rfl (lv_at hl 3 rfl) ?_
    refine k_i (r_S C h hl (As := [.int u2]) (rest := []) (s_X10_isUnit l D G b0 τ f t u2 hu2) mk_X10_isUnit w_941 w_942 w_943 ⟨Nat.le_of_ble_eq_true rfl, Nat.le_of_ble_eq_true rfl⟩ rfl (Nat.le_of_ble_eq_true rfl) ⟨Nat.le_of_ble_eq_true rfl, Nat.le_of_ble_eq_true rfl⟩ rfl dX10_sum_16) h (fun r8 f9 H locs p10 h => ?_)
    obtain ⟨ir8, tf9, ogf9, cnr8⟩ := p10
    have egf9 := Fr.nil2 ogf9
    subst egf9
    refine lv_if_eq (tgt := 29) hx hb dX10_sum_19 (by decide) (fun c11 => ?_) (fun c11 => ?_)
    · have c12 : r8.toInt = 0 := congrArg Int32.toInt c11
      have i13 : iv r8 0 0 := iv_Q c12 ir8 (iv_k (x := 0) (k := 0) rfl) (by decide)
      refine lv_bipush (v := -2) hx hb dX10_sum_29 (by decide) ?_
      exact u_iret C h hr hQ (⟨⟨by decide, by decide⟩, t, o⟩) (Nat.le_of_ble_eq_true rfl) (Nat.le_of_ble_eq_true rfl) dX10_sum_31
    · have c14 : r8.toInt ≠ 0 := fun z_ => c11 (Int32.toInt_inj.mp z_)
      have i15 : iv r8 1 1 := iv_Nl c14 ir8 (by decide)
      have i16 := cnr8 c14
      refine lv_iload_n hx hb dX10_sum_22 rfl (lv_at hl 4 rfl) ?_
      refine k_i (r_S C h hl (As := [.int u3]) (rest := []) (s_X10_isUnit l D G b0 τ f t u3 hu3) mk_X10_isUnit w_941 w_942 w_943 ⟨Nat.le_of_ble_eq_true rfl, Nat.le_of_ble_eq_true rfl⟩ rfl (Nat.le_of_ble_eq_true rfl) ⟨Nat.le_of_ble_eq_true rfl, Nat.le_of_ble_eq_true rfl⟩ rfl dX10_sum_23) h (fun r17 f18 H locs p19 h => ?_)
      obtain ⟨ir17, tf18, ogf18, cnr17⟩ := p19
      have egf18 := Fr.nil2 ogf18
      subst egf18
      refine lv_if_ne (tgt := 32) hx hb dX10_sum_26 (by decide) (fun c20 => ?_) (fun c20 => ?_)
      · have c21 : r17.toInt ≠ 0 := fun z_ => c20 (Int32.toInt_inj.mp z_)
        have i22 : iv r17 1 1 := iv_Nl c21 ir17 (by decide)
        have i23 := cnr17 c21
        refine lv_aload_n hx hb dX10_sum_32 rfl (lv_at hl 1 rfl) ?_
        refine t_getr (tq := 35) C h t hu0 (by decide) wf_10 rfl fl_X10_40 dX10_sum_33 (fun q26 tq26 => ?_)
        refine lv_aload hx hb dX10_sum_36 (lv_at hl 0 rfl) ?_
        refine lv_iload_n hx hb dX10_sum_38 rfl (lv_at hl 3 rfl) ?_
        refine lv_iload_n hx hb dX10_sum_39 rfl (lv_at hl 4 rfl) ?_
        obtain ⟨_, r27⟩ := t_rec t tq26 (by decide) wf_35
        refine k_i (r_V C h hl (As := [.ref q7, .int u2, .int u3]) (rest := []) (s_X8_follow l D G b0 τ f t q26 tq26 q7 tq7 u2 (iv_w i16 (by decide)) u3 (iv_w i23 (by decide))) r27 (Cn := RX8) (T := TX8) (N := 2) rfl rfl mk_X8_follow w_970 w_971 w_972 w_973 ⟨Nat.le_of_ble_eq_true rfl, Nat.le_of_ble_eq_true rfl⟩ rfl (Nat.le_of_ble_eq_true rfl) ⟨Nat.le_of_ble_eq_true rfl, Nat.le_of_ble_eq_true rfl⟩ rfl dX10_sum_40) h (fun r28 f29 H locs p30 h => ?_)
        obtain ⟨ir28, tf29, ogf29⟩ := p30
        have of29 : Fr [36, 80] τ f f29 := Fr.tr o ogf29 (by decide) (by decide)
        refine lv_istore (lv' := [(5, .int r28), (4, .ref q7), (0, .ref u0), (1, .int u1), (2, .int u2), (3, .int u3)]) hx hb dX10_sum_43 hl (by decide) rfl (fun ls hl => ?_)
        refine lv_iload hx hb dX10_sum_45 (lv_at hl 0 rfl) ?_
        refine lv_iconst (v := -1) hx hb dX10_sum_47 (by decide) ?_
        refine lv_icmp_ne (tgt := 55) hx hb dX10_sum_48 (by decide) (fun c31 => ?_) (fun c31 => ?_)
        · have c32 : r28.toInt ≠ (-1) := fun z_ => c31 (Int32.toInt_inj.mp z_)
          have i33 : iv r28 0 40 := iv_Nl c32 ir28 (by decide)
          refine lv_aload_n hx hb dX10_sum_55 rfl (lv_at hl 2 rfl) ?_
          refine t_getr (tq := 35) C h tf29 hu0 (by decide) wf_10 rfl fl_X10_40 dX10_sum_56 (fun q36 tq36 => ?_)
          refine lv_iload hx hb dX10_sum_59 (lv_at hl 0 rfl) ?_
          obtain ⟨_, r37⟩ := t_rec tf29 tq36 (by decide) wf_35
          refine k_i (r_V C h hl (As := [.int r28]) (rest := []) (s_X8_alternating l D G b0 τ f29 tf29 q36 tq36 r28 (iv_w i33 (by decide))) r37 (Cn := RX8) (T := TX8) (N := 2) rfl rfl mk_X8_alternating w_990 w_991 w_992 w_993 ⟨Nat.le_of_ble_eq_true rfl, Nat.le_of_ble_eq_true rfl⟩ rfl (Nat.le_of_ble_eq_true rfl) ⟨Nat.le_of_ble_eq_true rfl, Nat.le_of_ble_eq_true rfl⟩ rfl dX10_sum_61) h (fun r38 f39 H locs p40 h => ?_)
          obtain ⟨ir38, tf39, ogf39⟩ := p40
          have egf39 := Fr.nil2 ogf39
          subst egf39
          exact u_iret C h hr hQ (⟨ir38, tf29, of29⟩) (Nat.le_of_ble_eq_true rfl) (Nat.le_of_ble_eq_true rfl) dX10_sum_64
        · have c34 : r28.toInt = (-1) := congrArg Int32.toInt c31
          have i35 : iv r28 (-1) (-1) := iv_Q c34 ir28 (iv_k (x := (-1)) (k := (-1)) rfl) (by decide)
          refine lv_iconst (v := -1) hx hb dX10_sum_51 (by decide) ?_
          refine lv_goto (tgt := 64) hx hb dX10_sum_52 (by decide) ?_
          exact u_iret C h hr hQ (⟨⟨by decide, by decide⟩, tf29, of29⟩) (Nat.le_of_ble_eq_true rfl) (Nat.le_of_ble_eq_true rfl) dX10_sum_64
      · have c24 : r17.toInt = 0 := congrArg Int32.toInt c20
        have i25 : iv r17 0 0 := iv_Q c24 ir17 (iv_k (x := 0) (k := 0) rfl) (by decide)
        refine lv_bipush (v := -2) hx hb dX10_sum_29 (by decide) ?_
        exact u_iret C h hr hQ (⟨⟨by decide, by decide⟩, t, o⟩) (Nat.le_of_ble_eq_true rfl) (Nat.le_of_ble_eq_true rfl) dX10_sum_31
abbrev rm_s_X10_status : Room := { frames := 1, cells := 0, slots := 0, locals := 22 }
set_option maxRecDepth 100000 in
set_option maxHeartbeats 4000000 in
theorem s_X10_status (l : Launch) (D : va_G) (G : Nat → Nat) (b0 : Nat) (τ : Nat → Nat) (f : hM) (t : TI G 9 τ f) (u0 : Nat) (hu0 : τ u0 = 10) (u1 : Int32) (hu1 : iv u1 (-2147483648) 2147483647) : mI l yX10_status cX10_status 2 (.int) rm_s_X10_status D G b0 f [.ref u0, .int u1] (fun r f1 => iv r (-2147483648) 2147483647 ∧ TI G 9 τ f1 ∧ Fr [] τ f f1) := by
  refine met2 (own := RX10) (by decide) rfl (Nat.le_of_ble_eq_true rfl) ?_
  intro p e s m args below meth c ls Q hQ C hr hini hl h
  have hl : lv_has ls 2 [(0, .ref u0), (1, .int u1)] := hl
  obtain ⟨hx, hb, hml, hown, hts, hE0, hlk⟩ := id C
  have o := Fr.rf [] τ f
  refine lv_iload_n hx hb dX10_status_0 rfl (lv_at hl 1 rfl) ?_
  refine lv_iconst (v := 0) hx hb dX10_status_1 (by decide) ?_
  refine lv_aload_n hx hb dX10_status_2 rfl (lv_at hl 0 rfl) ?_
  refine t_getr (tq := 50) C h t hu0 (by decide) wf_10 rfl fl_X10_60 dX10_status_3 (fun q1 tq1 => ?_)
  refine t_alen C h t tq1 (by decide) (n := 4) (v := 4) (fun e_ h_ => Or.inl ⟨_, _, wf_50 e_ h_⟩) rfl dX10_status_6 ?_
  refine lv_iconst (v := 1) hx hb dX10_status_7 (by decide) ?_
  refine lv_isub hx hb dX10_status_8 (lv_topi (fun x_ e_ => ?_))
  obtain rfl : 3 = x_ := by rw [e_]; decide
  refine k_i (r_S C h hl (As := [.int u1, .int 0, .int 3]) (rest := []) (s_X10_within l D G b0 τ f t u1 hu1 0 (iv_w (iv_k (x := 0) (k := 0) rfl) (by decide)) 3 (iv_w (iv_k (x := 3) (k := 3) rfl) (by decide))) mk_X10_within w_425 w_426 w_427 ⟨Nat.le_of_ble_eq_true rfl, Nat.le_of_ble_eq_true rfl⟩ rfl (Nat.le_of_ble_eq_true rfl) ⟨Nat.le_of_ble_eq_true rfl, Nat.le_of_ble_eq_true rfl⟩ rfl dX10_status_9) h (fun r2 f3 H locs p4 h => ?_)
  have n5 : (0 : Int32).toInt = 0 := rfl
  have n6 : (3 : Int32).toInt = 3 := rfl
  obtain ⟨ir2, tf3, ogf3, cnr2, czr2⟩ := p4
  have egf3 := Fr.nil2 ogf3
  subst egf3
  refine lv_if_eq (tgt := 24) hx hb dX10_status_12 (by decide) (fun c7 => ?_) (fun c7 => ?_)
  · have c8 : r2.toInt = 0 := congrArg Int32.toInt c7
    have i9 : iv r2 0 0 := iv_Q c8 ir2 (iv_k (x := 0) (k := 0) rfl) (by decide)
    have i10 := czr2 c8
    refine lv_iconst (v := -1) hx hb dX10_status_24 (by decide) ?_
    exact u_iret C h hr hQ (⟨⟨by decide, by decide⟩, t, o⟩) (Nat.le_of_ble_eq_true rfl) (Nat.le_of_ble_eq_true rfl) dX10_status_25
  · have c11 : r2.toInt ≠ 0 := fun z_ => c7 (Int32.toInt_inj.mp z_)
    have i12 : iv r2 1 1 := iv_Nl c11 ir2 (by decide)
    obtain ⟨i13, i14⟩ := cnr2 c11
    have i15 : iv u1 0 3 := ⟨by omega, by omega⟩
    refine lv_aload_n hx hb dX10_status_15 rfl (lv_at hl 0 rfl) ?_
    refine t_getr (tq := 50) C h t hu0 (by decide) wf_10 rfl fl_X10_60 dX10_status_16 (fun q16 tq16 => ?_)
    refine lv_iload_n hx hb dX10_status_19 rfl (lv_at hl 1 rfl) ?_
    refine t_iald C h t tq16 (by decide) wf_50 (iv_in i15 (by decide)) dX10_status_20 (fun z17 iz17 => ?_)
    refine lv_goto (tgt := 25) hx hb dX10_status_21 (by decide) ?_
    exact u_iret C h hr hQ (⟨iz17, t, o⟩) (Nat.le_of_ble_eq_true rfl) (Nat.le_of_ble_eq_true rfl) dX10_status_25
abbrev rm_s_X10_isRepeated : Room := { frames := 2, cells := 0, slots := 0, locals := 43 }
set_option maxRecDepth 100000 in
set_option maxHeartbeats 4000000 in
theorem s_X10_isRepeated (l : Launch) (D : va_G) (G : Nat → Nat) (b0 : Nat) (τ : Nat → Nat) (f : hM) (t : TI G 9 τ f) (u0 : Nat) (hu0 : τ u0 = 10) (u1 : Int32) (hu1 : iv u1 (-2147483648) 2147483647) : mI l yX10_isRepeated cX10_isRepeated 5 (.boolean) rm_s_X10_isRepeated D G b0 f [.ref u0, .int u1] (fun r f1 => iv r 0 1 ∧ TI G 9 τ f1 ∧ Fr [] τ f f1) := by
  refine met2 (own := RX10) (by decide) rfl (Nat.le_of_ble_eq_true rfl) ?_
  intro p e s m args below meth c ls Q hQ C hr hini hl h
  have hl : lv_has ls 5 [(0, .ref u0), (1, .int u1)] := hl
  obtain ⟨hx, hb, hml, hown, hts, hE0, hlk⟩ := id C
  have o := Fr.rf [] τ f
  have L11 : ∀ (n11 : Nat) (ls : Array Slot) (f_11 : hM) (H : Heap) (locs : List Loc) (v11_2 : Option Nat) (v11_3 : Int32), 2147483647 - v11_3.toInt < (n11 : Int) → lv_has ls 5 [(0, .ref u0), (1, .int u1), (2, va_rf v11_2), (3, .int v11_3)] → hw D b0 s.heap f_11 H locs → TI G 9 τ f_11 → Fr [] τ f f_11 → (∀ z, v11_2 = some z → τ z = 1) → iv v11_3 0 2147483647 → W p l e rm_s_X10_isRepeated s m args below meth c H locs 0 0 Q (F0 m 11 ls []) := by
    intro n11
    induction n11 with
    | zero => intro ls f_11 H locs v11_2 v11_3 hm11 hl h t_11 o_11 tv11_2 iv11_3; exact absurd hm11 (by omega)
    | succ n11 ih11 =>
      intro ls f_11 H locs v11_2 v11_3 hm11 hl h t_11 o_11 tv11_2 iv11_3
      refine lv_iload_n hx hb dX10_isRepeated_11 rfl (lv_at hl 3 rfl) ?_
      refine lv_iload_n hx hb dX10_isRepeated_12 rfl (lv_at hl 1 rfl) ?_
      refine lv_icmp_ge (tgt := 52) hx hb dX10_isRepeated_13 (by decide) (fun c1 => ?_) (fun c1 => ?_)
      · have c2 : u1.toInt ≤ v11_3.toInt := Int32.le_iff_toInt_le.mp c1
        refine lv_iconst (v := 0) hx hb dX10_isRepeated_52 (by decide) ?_
        exact u_zret C h hr hQ ⟨by decide, by decide⟩ (⟨⟨by decide, by decide⟩, t_11, o_11⟩) (Nat.le_of_ble_eq_true rfl) (Nat.le_of_ble_eq_true rfl) dX10_isRepeated_53
      · have c3 : v11_3.toInt < u1.toInt := Int32.lt_iff_toInt_lt.mp (iv_nle c1)
        have i4 : iv v11_3 0 2147483646 := iv_Ll c3 iv11_3 hu1 (by decide)
        have i5 : iv u1 1 2147483647 := iv_Lr c3 iv11_3 hu1 (by decide)
        refine lv_aload_n hx hb dX10_isRepeated_16 rfl (lv_at hl 0 rfl) ?_
        refine t_getr (tq := 12) C h t_11 hu0 (by decide) wf_10 rfl fl_X10_19 dX10_isRepeated_17 (fun q6 tq6 => ?_)
        refine lv_iload_n hx hb dX10_isRepeated_20 rfl (lv_at hl 3 rfl) ?_
        obtain ⟨_, r7⟩ := t_rec t_11 tq6 (by decide) wf_12
        refine k_q (r_V C h hl (As := [.int v11_3]) (rest := []) (s_X0_find l D G b0 τ f_11 t_11 q6 tq6 v11_3 (iv_w i4 (by decide))) r7 (Cn := RX0) (T := TX0) (N := 6) rfl rfl mk_X0_find w_594 w_595 w_596 w_597 ⟨Nat.le_of_ble_eq_true rfl, Nat.le_of_ble_eq_true rfl⟩ rfl (Nat.le_of_ble_eq_true rfl) ⟨Nat.le_of_ble_eq_true rfl, Nat.le_of_ble_eq_true rfl⟩ rfl dX10_isRepeated_21) h (fun r8 f9 H locs p10 h => ?_)
        obtain ⟨qr8, tf9, ogf9⟩ := p10
        have egf9 := Fr.nil2 ogf9
        subst egf9
        have tr8 := qr8
        refine lv_astoreO (lv' := [(4, va_rf r8), (0, .ref u0), (1, .int u1), (2, va_rf v11_2), (3, .int v11_3)]) hx hb dX10_isRepeated_24 hl (by decide) rfl (fun ls hl => ?_)
        refine lv_aload_nO hx hb dX10_isRepeated_26 rfl (lv_at hl 3 rfl) ?_
        rcases va_rfc v11_2 with eq12 | ⟨q12, eq12⟩
        · subst eq12
          have hl : lv_has ls 5 [(4, va_rf r8), (0, .ref u0), (1, .int u1), (2, .null), (3, .int v11_3)] := hl
          show W _ _ _ _ _ _ _ _ _ _ _ _ _ _ _ (F0 m 27 ls [.null])
          refine lv_ifnullN (tgt := 46) hx hb dX10_isRepeated_27 (by decide) ?_
          refine i_inc hx hb dX10_isRepeated_46 hl (k := 4) rfl i4 rfl (lo := 1) (hi := 2147483647) (by decide) (by decide) (lv' := fun v => [(3, .int v), (4, va_rf r8), (0, .ref u0), (1, .int u1), (2, .null)]) (fun _ => rfl) (fun z13 ls ez13 mz13 iz13 hl => ?_)
          refine lv_goto (tgt := 11) hx hb dX10_isRepeated_49 (by decide) ?_
          exact ih11 ls f_11 H locs none z13 (show 2147483647 - z13.toInt < _ by omega) (lv_cons hl 2 rfl (lv_cons hl 3 rfl (lv_cons hl 4 rfl (lv_cons hl 0 rfl (lv_nil hl))))) h t_11 o_11 (fun z_ h_ => by cases h_) (iv_w iz13 (by decide))
        · subst eq12
          have tq12 : τ q12 = 1 := tv11_2 _ rfl
          have hl : lv_has ls 5 [(4, va_rf r8), (0, .ref u0), (1, .int u1), (2, .ref q12), (3, .int v11_3)] := hl
          show W _ _ _ _ _ _ _ _ _ _ _ _ _ _ _ (F0 m 27 ls [.ref q12])
          refine lv_ifnull hx hb dX10_isRepeated_27 ?_
          refine lv_aloadO hx hb dX10_isRepeated_30 (lv_at hl 0 rfl) ?_
          rcases va_rfc r8 with eq14 | ⟨q14, eq14⟩
          · subst eq14
            have hl : lv_has ls 5 [(4, .null), (0, .ref u0), (1, .int u1), (2, .ref q12), (3, .int v11_3)] := hl
            show W _ _ _ _ _ _ _ _ _ _ _ _ _ _ _ (F0 m 32 ls [.null])
            refine lv_ifnullN (tgt := 46) hx hb dX10_isRepeated_32 (by decide) ?_
            refine i_inc hx hb dX10_isRepeated_46 hl (k := 4) rfl i4 rfl (lo := 1) (hi := 2147483647) (by decide) (by decide) (lv' := fun v => [(3, .int v), (4, .null), (0, .ref u0), (1, .int u1), (2, .ref q12)]) (fun _ => rfl) (fun z15 ls ez15 mz15 iz15 hl => ?_)
            refine lv_goto (tgt := 11) hx hb dX10_isRepeated_49 (by decide) ?_
            exact ih11 ls f_11 H locs (some q12) z15 (show 2147483647 - z15.toInt < _ by omega) (lv_cons hl 2 rfl (lv_cons hl 3 rfl (lv_cons hl 4 rfl (lv_cons hl 0 rfl (lv_nil hl))))) h t_11 o_11 (fun z_ h_ => by cases h_; exact tq12) (iv_w iz15 (by decide))
          · subst eq14
            have tq14 : τ q14 = 1 := tr8 _ rfl
            have hl : lv_has ls 5 [(4, .ref q14), (0, .ref u0), (1, .int u1), (2, .ref q12), (3, .int v11_3)] := hl
            show W _ _ _ _ _ _ _ _ _ _ _ _ _ _ _ (F0 m 32 ls [.ref q14])
            refine lv_ifnull hx hb dX10_isRepeated_32 ?_
            refine lv_aload_n hx hb dX10_isRepeated_35 rfl (lv_at hl 3 rfl) ?_
            refine lv_aload hx hb dX10_isRepeated_36 (lv_at hl 0 rfl) ?_
            obtain ⟨_, r16⟩ := t_rec t_11 tq12 (by decide) wf_1
            refine k_i (r_V C h hl (As := [.ref q14]) (rest := []) (s_X6_isSameAs l D G b0 τ f_11 t_11 q12 tq12 q14 tq14) r16 (Cn := RX6) (T := TX6) (N := 4) rfl rfl mk_X6_isSameAs w_1329 w_1330 w_1331 w_1332 ⟨Nat.le_of_ble_eq_true rfl, Nat.le_of_ble_eq_true rfl⟩ rfl (Nat.le_of_ble_eq_true rfl) ⟨Nat.le_of_ble_eq_true rfl, Nat.le_of_ble_eq_true rfl⟩ rfl dX10_isRepeated_38) h (fun r17 f18 H locs p19 h => ?_)
            obtain ⟨ir17, tf18, ogf18⟩ := p19
            have egf18 := Fr.nil2 ogf18
            subst egf18
            refine lv_if_eq (tgt := 46) hx hb dX10_isRepeated_41 (by decide) (fun c20 => ?_) (fun c20 => ?_)
            · have c21 : r17.toInt = 0 := congrArg Int32.toInt c20
              have i22 : iv r17 0 0 := iv_Q c21 ir17 (iv_k (x := 0) (k := 0) rfl) (by decide)
              refine i_inc hx hb dX10_isRepeated_46 hl (k := 4) rfl i4 rfl (lo := 1) (hi := 2147483647) (by decide) (by decide) (lv' := fun v => [(3, .int v), (4, .ref q14), (0, .ref u0), (1, .int u1), (2, .ref q12)]) (fun _ => rfl) (fun z25 ls ez25 mz25 iz25 hl => ?_)
              refine lv_goto (tgt := 11) hx hb dX10_isRepeated_49 (by decide) ?_
              exact ih11 ls f_11 H locs (some q12) z25 (show 2147483647 - z25.toInt < _ by omega) (lv_cons hl 2 rfl (lv_cons hl 3 rfl (lv_cons hl 4 rfl (lv_cons hl 0 rfl (lv_nil hl))))) h t_11 o_11 (fun z_ h_ => by cases h_; exact tq12) (iv_w iz25 (by decide))
            · have c23 : r17.toInt ≠ 0 := fun z_ => c20 (Int32.toInt_inj.mp z_)
              have i24 : iv r17 1 1 := iv_Nl c23 ir17 (by decide)
              refine lv_iconst (v := 1) hx hb dX10_isRepeated_44 (by decide) ?_
              exact u_zret C h hr hQ ⟨by decide, by decide⟩ (⟨⟨by decide, by decide⟩, t_11, o_11⟩) (Nat.le_of_ble_eq_true rfl) (Nat.le_of_ble_eq_true rfl) dX10_isRepeated_45
  refine lv_aload_n hx hb dX10_isRepeated_0 rfl (lv_at hl 0 rfl) ?_
  refine t_getr (tq := 12) C h t hu0 (by decide) wf_10 rfl fl_X10_19 dX10_isRepeated_1 (fun q26 tq26 => ?_)
  refine lv_iload_n hx hb dX10_isRepeated_4 rfl (lv_at hl 1 rfl) ?_
  obtain ⟨_, r27⟩ := t_rec t tq26 (by decide) wf_12
  refine k_q (r_V C h hl (As := [.int u1]) (rest := []) (s_X0_find l D G b0 τ f t q26 tq26 u1 hu1) r27 (Cn := RX0) (T := TX0) (N := 6) rfl rfl mk_X0_find w_594 w_595 w_596 w_597 ⟨Nat.le_of_ble_eq_true rfl, Nat.le_of_ble_eq_true rfl⟩ rfl (Nat.le_of_ble_eq_true rfl) ⟨Nat.le_of_ble_eq_true rfl, Nat.le_of_ble_eq_true rfl⟩ rfl dX10_isRepeated_5) h (fun r28 f29 H locs p30 h => ?_)
  obtain ⟨qr28, tf29, ogf29⟩ := p30
  have egf29 := Fr.nil2 ogf29
  subst egf29
  have tr28 := qr28
  refine lv_astore_nO (lv' := [(2, va_rf r28), (0, .ref u0), (1, .int u1)]) hx hb dX10_isRepeated_8 rfl hl (by decide) rfl (fun ls hl => ?_)
  refine lv_iconst (v := 0) hx hb dX10_isRepeated_9 (by decide) ?_
  refine lv_istore_n (i := 3) (lv' := [(3, .int 0), (2, va_rf r28), (0, .ref u0), (1, .int u1)]) hx hb dX10_isRepeated_10 rfl hl (by decide) (by simp [va_rfcat]) (fun ls hl => ?_)
  exact L11 2147483648 ls f H locs r28 0 (by decide) (lv_cons hl 2 rfl (lv_cons hl 3 rfl (lv_cons hl 1 rfl (lv_cons hl 0 rfl (lv_nil hl))))) h t o tr28 ⟨by decide, by decide⟩
abbrev rm_s_X10_unlikeSets : Room := { frames := 3, cells := 0, slots := 0, locals := 67 }
set_option maxRecDepth 100000 in
set_option maxHeartbeats 4000000 in
theorem s_X10_unlikeSets (l : Launch) (D : va_G) (G : Nat → Nat) (b0 : Nat) (τ : Nat → Nat) (f : hM) (t : TI G 9 τ f) (u0 : Nat) (hu0 : τ u0 = 10) : mI l yX10_unlikeSets cX10_unlikeSets 3 (.int) rm_s_X10_unlikeSets D G b0 f [.ref u0] (fun r f1 => iv r (-2147483648) 2147483647 ∧ TI G 9 τ f1 ∧ Fr [] τ f f1) := by
  refine met2 (own := RX10) (by decide) rfl (Nat.le_of_ble_eq_true rfl) ?_
  intro p e s m args below meth c ls Q hQ C hr hini hl h
  have hl : lv_has ls 3 [(0, .ref u0)] := hl
  obtain ⟨hx, hb, hml, hown, hts, hE0, hlk⟩ := id C
  have o := Fr.rf [] τ f
  have L4 : ∀ (n4 : Nat) (ls : Array Slot) (f_4 : hM) (H : Heap) (locs : List Loc) (v4_1 : Int32) (v4_2 : Int32), 8 - v4_2.toInt < (n4 : Int) → lv_has ls 3 [(0, .ref u0), (1, .int v4_1), (2, .int v4_2)] → hw D b0 s.heap f_4 H locs → TI G 9 τ f_4 → Fr [] τ f f_4 → iv v4_1 (-2147483648) 2147483647 → iv v4_2 0 8 → W p l e rm_s_X10_unlikeSets s m args below meth c H locs 0 0 Q (F0 m 4 ls []) := by
    intro n4
    induction n4 with
    | zero => intro ls f_4 H locs v4_1 v4_2 hm4 hl h t_4 o_4 iv4_1 iv4_2; exact absurd hm4 (by omega)
    | succ n4 ih4 =>
      intro ls f_4 H locs v4_1 v4_2 hm4 hl h t_4 o_4 iv4_1 iv4_2
      refine lv_iload_n hx hb dX10_unlikeSets_4 rfl (lv_at hl 2 rfl) ?_
      refine lv_aload_n hx hb dX10_unlikeSets_5 rfl (lv_at hl 0 rfl) ?_
      refine t_getr (tq := 12) C h t_4 hu0 (by decide) wf_10 rfl fl_X10_19 dX10_unlikeSets_6 (fun q1 tq1 => ?_)
      obtain ⟨_, r2⟩ := t_rec t_4 tq1 (by decide) wf_12
      refine k_i (r_V C h hl (As := []) (rest := [.int v4_2]) (s_X0_size l D G b0 τ f_4 t_4 q1 tq1) r2 (Cn := RX0) (T := TX0) (N := 6) rfl rfl mk_X0_size w_1321 w_1322 w_1323 w_1324 ⟨Nat.le_of_ble_eq_true rfl, Nat.le_of_ble_eq_true rfl⟩ rfl (Nat.le_of_ble_eq_true rfl) ⟨Nat.le_of_ble_eq_true rfl, Nat.le_of_ble_eq_true rfl⟩ rfl dX10_unlikeSets_9) h (fun r3 f4 H locs p5 h => ?_)
      obtain ⟨ir3, tf4, ogf4⟩ := p5
      have egf4 := Fr.nil2 ogf4
      subst egf4
      refine lv_icmp_ge (tgt := 32) hx hb dX10_unlikeSets_12 (by decide) (fun c6 => ?_) (fun c6 => ?_)
      · have c7 : r3.toInt ≤ v4_2.toInt := Int32.le_iff_toInt_le.mp c6
        refine lv_iload_n hx hb dX10_unlikeSets_32 rfl (lv_at hl 1 rfl) ?_
        exact u_iret C h hr hQ (⟨iv4_1, t_4, o_4⟩) (Nat.le_of_ble_eq_true rfl) (Nat.le_of_ble_eq_true rfl) dX10_unlikeSets_33
      · have c8 : v4_2.toInt < r3.toInt := Int32.lt_iff_toInt_lt.mp (iv_nle c6)
        have i9 : iv v4_2 0 7 := iv_Ll c8 iv4_2 ir3 (by decide)
        have i10 : iv r3 1 8 := iv_Lr c8 iv4_2 ir3 (by decide)
        refine lv_aload_n hx hb dX10_unlikeSets_15 rfl (lv_at hl 0 rfl) ?_
        refine lv_iload_n hx hb dX10_unlikeSets_16 rfl (lv_at hl 2 rfl) ?_
        obtain ⟨_, r11⟩ := t_rec t_4 hu0 (by decide) wf_10
        refine k_i (r_V C h hl (As := [.int v4_2]) (rest := []) (s_X10_isRepeated l D G b0 τ f_4 t_4 u0 hu0 v4_2 (iv_w i9 (by decide))) r11 (Cn := RX10) (T := TX10) (N := 10) rfl rfl mk_X10_isRepeated w_1325 w_1327 w_33 w_1328 ⟨Nat.le_of_ble_eq_true rfl, Nat.le_of_ble_eq_true rfl⟩ rfl (Nat.le_of_ble_eq_true rfl) ⟨Nat.le_of_ble_eq_true rfl, Nat.le_of_ble_eq_true rfl⟩ rfl dX10_unlikeSets_17) h (fun r12 f13 H locs p14 h => ?_)
        obtain ⟨ir12, tf13, ogf13⟩ := p14
        have egf13 := Fr.nil2 ogf13
        subst egf13
        refine lv_if_ne (tgt := 26) hx hb dX10_unlikeSets_20 (by decide) (fun c15 => ?_) (fun c15 => ?_)
        · have c16 : r12.toInt ≠ 0 := fun z_ => c15 (Int32.toInt_inj.mp z_)
          have i17 : iv r12 1 1 := iv_Nl c16 ir12 (by decide)
          refine i_inc hx hb dX10_unlikeSets_26 hl (k := 2) rfl i9 rfl (lo := 1) (hi := 8) (by decide) (by decide) (lv' := fun v => [(2, .int v), (0, .ref u0), (1, .int v4_1)]) (fun _ => rfl) (fun z20 ls ez20 mz20 iz20 hl => ?_)
          refine lv_goto (tgt := 4) hx hb dX10_unlikeSets_29 (by decide) ?_
          exact ih4 ls f_4 H locs v4_1 z20 (show 8 - z20.toInt < _ by omega) (lv_cons hl 1 rfl (lv_cons hl 2 rfl (lv_cons hl 0 rfl (lv_nil hl)))) h t_4 o_4 iv4_1 (iv_w iz20 (by decide))
        · have c18 : r12.toInt = 0 := congrArg Int32.toInt c15
          have i19 : iv r12 0 0 := iv_Q c18 ir12 (iv_k (x := 0) (k := 0) rfl) (by decide)
          refine i_incA hx hb dX10_unlikeSets_23 hl (k := 1) rfl (by decide) (lv' := fun v => [(1, .int v), (0, .ref u0), (2, .int v4_2)]) (fun _ => rfl) (fun z21 ls ez21 iz21 hl => ?_)
          refine i_inc hx hb dX10_unlikeSets_26 hl (k := 2) rfl i9 rfl (lo := 1) (hi := 8) (by decide) (by decide) (lv' := fun v => [(2, .int v), (1, .int z21), (0, .ref u0)]) (fun _ => rfl) (fun z22 ls ez22 mz22 iz22 hl => ?_)
          refine lv_goto (tgt := 4) hx hb dX10_unlikeSets_29 (by decide) ?_
          exact ih4 ls f_4 H locs z21 z22 (show 8 - z22.toInt < _ by omega) (lv_cons hl 2 rfl (lv_cons hl 1 rfl (lv_cons hl 0 rfl (lv_nil hl)))) h t_4 o_4 iz21 (iv_w iz22 (by decide))
  refine lv_iconst (v := 0) hx hb dX10_unlikeSets_0 (by decide) ?_
  refine lv_istore_n (lv' := [(1, .int 0), (0, .ref u0)]) hx hb dX10_unlikeSets_1 rfl hl (by decide) rfl (fun ls hl => ?_)
  refine lv_iconst (v := 0) hx hb dX10_unlikeSets_2 (by decide) ?_
  refine lv_istore_n (lv' := [(2, .int 0), (1, .int 0), (0, .ref u0)]) hx hb dX10_unlikeSets_3 rfl hl (by decide) rfl (fun ls hl => ?_)
  exact L4 9 ls f s.heap [] 0 0 (by decide) (lv_cons hl 2 rfl (lv_cons hl 1 rfl (lv_cons hl 0 rfl (lv_nil hl)))) h t o ⟨by decide, by decide⟩ ⟨by decide, by decide⟩
abbrev rm_s_X10_commonSteps : Room := { frames := 2, cells := 0, slots := 0, locals := 43 }
set_option maxRecDepth 100000 in
set_option maxHeartbeats 4000000 in
theorem s_X10_commonSteps (l : Launch) (D : va_G) (G : Nat → Nat) (b0 : Nat) (τ : Nat → Nat) (f : hM) (t : TI G 9 τ f) (u0 : Nat) (hu0 : τ u0 = 10) : mI l yX10_commonSteps cX10_commonSteps 4 (.int) rm_s_X10_commonSteps D G b0 f [.ref u0] (fun r f1 => iv r (-2147483648) 2147483647 ∧ TI G 9 τ f1 ∧ Fr [] τ f f1) := by
  refine met2 (own := RX10) (by decide) rfl (Nat.le_of_ble_eq_true rfl) ?_
  intro p e s m args below meth c ls Q hQ C hr hini hl h
  have hl : lv_has ls 4 [(0, .ref u0)] := hl
  obtain ⟨hx, hb, hml, hown, hts, hE0, hlk⟩ := id C
  have o := Fr.rf [] τ f
  have L6 : ∀ (n6 : Nat) (ls : Array Slot) (f_6 : hM) (H : Heap) (locs : List Loc) (v6_1 : Int32) (v6_2 : Int32), 8 - v6_2.toInt < (n6 : Int) → lv_has ls 4 [(0, .ref u0), (1, .int v6_1), (2, .int v6_2)] → hw D b0 s.heap f_6 H locs → TI G 9 τ f_6 → Fr [] τ f f_6 → iv v6_1 (-2147483648) 2147483647 → iv v6_2 0 8 → W p l e rm_s_X10_commonSteps s m args below meth c H locs 0 0 Q (F0 m 6 ls []) := by
    intro n6
    induction n6 with
    | zero => intro ls f_6 H locs v6_1 v6_2 hm6 hl h t_6 o_6 iv6_1 iv6_2; exact absurd hm6 (by omega)
    | succ n6 ih6 =>
      intro ls f_6 H locs v6_1 v6_2 hm6 hl h t_6 o_6 iv6_1 iv6_2
      refine lv_iload_n hx hb dX10_commonSteps_6 rfl (lv_at hl 2 rfl) ?_
      refine lv_aload_n hx hb dX10_commonSteps_7 rfl (lv_at hl 0 rfl) ?_
      refine t_getr (tq := 12) C h t_6 hu0 (by decide) wf_10 rfl fl_X10_19 dX10_commonSteps_8 (fun q1 tq1 => ?_)
      obtain ⟨_, r2⟩ := t_rec t_6 tq1 (by decide) wf_12
      refine k_i (r_V C h hl (As := []) (rest := [.int v6_2]) (s_X0_size l D G b0 τ f_6 t_6 q1 tq1) r2 (Cn := RX0) (T := TX0) (N := 6) rfl rfl mk_X0_size w_1321 w_1322 w_1323 w_1324 ⟨Nat.le_of_ble_eq_true rfl, Nat.le_of_ble_eq_true rfl⟩ rfl (Nat.le_of_ble_eq_true rfl) ⟨Nat.le_of_ble_eq_true rfl, Nat.le_of_ble_eq_true rfl⟩ rfl dX10_commonSteps_11) h (fun r3 f4 H locs p5 h => ?_)
      obtain ⟨ir3, tf4, ogf4⟩ := p5
      have egf4 := Fr.nil2 ogf4
      subst egf4
      refine lv_icmp_ge (tgt := 43) hx hb dX10_commonSteps_14 (by decide) (fun c6 => ?_) (fun c6 => ?_)
      · have c7 : r3.toInt ≤ v6_2.toInt := Int32.le_iff_toInt_le.mp c6
        refine lv_iload_n hx hb dX10_commonSteps_43 rfl (lv_at hl 1 rfl) ?_
        exact u_iret C h hr hQ (⟨iv6_1, t_6, o_6⟩) (Nat.le_of_ble_eq_true rfl) (Nat.le_of_ble_eq_true rfl) dX10_commonSteps_44
      · have c8 : v6_2.toInt < r3.toInt := Int32.lt_iff_toInt_lt.mp (iv_nle c6)
        have i9 : iv v6_2 0 7 := iv_Ll c8 iv6_2 ir3 (by decide)
        have i10 : iv r3 1 8 := iv_Lr c8 iv6_2 ir3 (by decide)
        refine lv_aload_n hx hb dX10_commonSteps_17 rfl (lv_at hl 0 rfl) ?_
        refine t_getr (tq := 12) C h t_6 hu0 (by decide) wf_10 rfl fl_X10_19 dX10_commonSteps_18 (fun q11 tq11 => ?_)
        refine lv_iload_n hx hb dX10_commonSteps_21 rfl (lv_at hl 2 rfl) ?_
        obtain ⟨_, r12⟩ := t_rec t_6 tq11 (by decide) wf_12
        refine k_q (r_V C h hl (As := [.int v6_2]) (rest := []) (s_X0_find l D G b0 τ f_6 t_6 q11 tq11 v6_2 (iv_w i9 (by decide))) r12 (Cn := RX0) (T := TX0) (N := 6) rfl rfl mk_X0_find w_594 w_595 w_596 w_597 ⟨Nat.le_of_ble_eq_true rfl, Nat.le_of_ble_eq_true rfl⟩ rfl (Nat.le_of_ble_eq_true rfl) ⟨Nat.le_of_ble_eq_true rfl, Nat.le_of_ble_eq_true rfl⟩ rfl dX10_commonSteps_22) h (fun r13 f14 H locs p15 h => ?_)
        obtain ⟨qr13, tf14, ogf14⟩ := p15
        have egf14 := Fr.nil2 ogf14
        subst egf14
        have tr13 := qr13
        refine lv_astore_nO (lv' := [(3, va_rf r13), (0, .ref u0), (1, .int v6_1), (2, .int v6_2)]) hx hb dX10_commonSteps_25 rfl hl (by decide) rfl (fun ls hl => ?_)
        refine lv_aload_nO hx hb dX10_commonSteps_26 rfl (lv_at hl 0 rfl) ?_
        rcases va_rfc r13 with eq17 | ⟨q17, eq17⟩
        · subst eq17
          have hl : lv_has ls 4 [(3, .null), (0, .ref u0), (1, .int v6_1), (2, .int v6_2)] := hl
          show W _ _ _ _ _ _ _ _ _ _ _ _ _ _ _ (F0 m 27 ls [.null])
          refine lv_ifnullN (tgt := 37) hx hb dX10_commonSteps_27 (by decide) ?_
          refine i_inc hx hb dX10_commonSteps_37 hl (k := 3) rfl i9 rfl (lo := 1) (hi := 8) (by decide) (by decide) (lv' := fun v => [(2, .int v), (3, .null), (0, .ref u0), (1, .int v6_1)]) (fun _ => rfl) (fun z18 ls ez18 mz18 iz18 hl => ?_)
          refine lv_goto (tgt := 6) hx hb dX10_commonSteps_40 (by decide) ?_
          exact ih6 ls f_6 H locs v6_1 z18 (show 8 - z18.toInt < _ by omega) (lv_cons hl 2 rfl (lv_cons hl 3 rfl (lv_cons hl 0 rfl (lv_nil hl)))) h t_6 o_6 iv6_1 (iv_w iz18 (by decide))
        · subst eq17
          have tq17 : τ q17 = 1 := tr13 _ rfl
          have hl : lv_has ls 4 [(3, .ref q17), (0, .ref u0), (1, .int v6_1), (2, .int v6_2)] := hl
          show W _ _ _ _ _ _ _ _ _ _ _ _ _ _ _ (F0 m 27 ls [.ref q17])
          refine lv_ifnull hx hb dX10_commonSteps_27 ?_
          refine lv_iload_n hx hb dX10_commonSteps_30 rfl (lv_at hl 2 rfl) ?_
          refine lv_aload_n hx hb dX10_commonSteps_31 rfl (lv_at hl 0 rfl) ?_
          obtain ⟨_, r19⟩ := t_rec t_6 tq17 (by decide) wf_1
          refine k_i (r_V C h hl (As := []) (rest := [.int v6_1]) (s_X6_bits l D G b0 τ f_6 t_6 q17 tq17) r19 (Cn := RX6) (T := TX6) (N := 4) rfl rfl mk_X6_bits w_998 w_680 w_681 w_682 ⟨Nat.le_of_ble_eq_true rfl, Nat.le_of_ble_eq_true rfl⟩ rfl (Nat.le_of_ble_eq_true rfl) ⟨Nat.le_of_ble_eq_true rfl, Nat.le_of_ble_eq_true rfl⟩ rfl dX10_commonSteps_32) h (fun r20 f21 H locs p22 h => ?_)
          obtain ⟨ir20, tf21, ogf21⟩ := p22
          have egf21 := Fr.nil2 ogf21
          subst egf21
          refine lv_iand hx hb dX10_commonSteps_35 (i_top (iv_any _) (fun z23 ez23 iz23 => ?_))
          refine lv_istore_n (lv' := [(1, .int z23), (3, .ref q17), (0, .ref u0), (2, .int v6_2)]) hx hb dX10_commonSteps_36 rfl hl (by decide) rfl (fun ls hl => ?_)
          refine i_inc hx hb dX10_commonSteps_37 hl (k := 3) rfl i9 rfl (lo := 1) (hi := 8) (by decide) (by decide) (lv' := fun v => [(2, .int v), (1, .int z23), (3, .ref q17), (0, .ref u0)]) (fun _ => rfl) (fun z24 ls ez24 mz24 iz24 hl => ?_)
          refine lv_goto (tgt := 6) hx hb dX10_commonSteps_40 (by decide) ?_
          exact ih6 ls f_6 H locs z23 z24 (show 8 - z24.toInt < _ by omega) (lv_cons hl 3 rfl (lv_cons hl 1 rfl (lv_cons hl 0 rfl (lv_nil hl)))) h t_6 o_6 iz23 (iv_w iz24 (by decide))
  refine lv_sipush (v := 255) hx hb dX10_commonSteps_0 (by decide) ?_
  refine lv_istore_n (lv' := [(1, .int 255), (0, .ref u0)]) hx hb dX10_commonSteps_3 rfl hl (by decide) rfl (fun ls hl => ?_)
  refine lv_iconst (v := 0) hx hb dX10_commonSteps_4 (by decide) ?_
  refine lv_istore_n (lv' := [(2, .int 0), (1, .int 255), (0, .ref u0)]) hx hb dX10_commonSteps_5 rfl hl (by decide) rfl (fun ls hl => ?_)
  exact L6 9 ls f s.heap [] 255 0 (by decide) (lv_cons hl 2 rfl (lv_cons hl 1 rfl (lv_cons hl 0 rfl (lv_nil hl)))) h t o ⟨by decide, by decide⟩ ⟨by decide, by decide⟩
abbrev rm_s_X10_greatestBy : Room := { frames := 5, cells := 0, slots := 0, locals := 121 }
set_option maxRecDepth 100000 in
set_option maxHeartbeats 4000000 in
theorem s_X10_greatestBy (l : Launch) (D : va_G) (G : Nat → Nat) (b0 : Nat) (τ : Nat → Nat) (f : hM) (t : TI G 9 τ f) (u0 : Nat) (hu0 : τ u0 = 10) (u1 : Int32) (hu1 : iv u1 (-2147483648) 2147483647) : mI l yX10_greatestBy cX10_greatestBy 7 (.int) rm_s_X10_greatestBy D G b0 f [.ref u0, .int u1] (fun r f1 => iv r (-1) 7 ∧ TI G 9 τ f1 ∧ Fr [36, 80] τ f f1) := by
  refine met2 (own := RX10) (by decide) rfl (Nat.le_of_ble_eq_true rfl) ?_
  intro p e s m args below meth c ls Q hQ C hr hini hl h
  have hl : lv_has ls 7 [(0, .ref u0), (1, .int u1)] := hl
  obtain ⟨hx, hb, hml, hown, hts, hE0, hlk⟩ := id C
  have o := Fr.rf [36, 80] τ f
  have L9 : ∀ (n9 : Nat) (ls : Array Slot) (f_9 : hM) (H : Heap) (locs : List Loc) (v9_2 : Int32) (v9_3 : Int32) (v9_4 : Int32), 8 - v9_4.toInt < (n9 : Int) → lv_has ls 7 [(0, .ref u0), (1, .int u1), (2, .int v9_2), (3, .int v9_3), (4, .int v9_4)] → hw D b0 s.heap f_9 H locs → TI G 9 τ f_9 → Fr [36, 80] τ f f_9 → iv v9_2 (-1) 7 → iv v9_3 (-2147483648) 2147483647 → iv v9_4 0 8 → W p l e rm_s_X10_greatestBy s m args below meth c H locs 0 0 Q (F0 m 9 ls []) := by
    intro n9
    induction n9 with
    | zero => intro ls f_9 H locs v9_2 v9_3 v9_4 hm9 hl h t_9 o_9 iv9_2 iv9_3 iv9_4; exact absurd hm9 (by omega)
    | succ n9 ih9 =>
      intro ls f_9 H locs v9_2 v9_3 v9_4 hm9 hl h t_9 o_9 iv9_2 iv9_3 iv9_4
      refine lv_iload hx hb dX10_greatestBy_9 (lv_at hl 4 rfl) ?_
      refine lv_aload_n hx hb dX10_greatestBy_11 rfl (lv_at hl 0 rfl) ?_
      refine t_getr (tq := 12) C h t_9 hu0 (by decide) wf_10 rfl fl_X10_19 dX10_greatestBy_12 (fun q1 tq1 => ?_)
      obtain ⟨_, r2⟩ := t_rec t_9 tq1 (by decide) wf_12
      refine k_i (r_V C h hl (As := []) (rest := [.int v9_4]) (s_X0_size l D G b0 τ f_9 t_9 q1 tq1) r2 (Cn := RX0) (T := TX0) (N := 6) rfl rfl mk_X0_size w_1321 w_1322 w_1323 w_1324 ⟨Nat.le_of_ble_eq_true rfl, Nat.le_of_ble_eq_true rfl⟩ rfl (Nat.le_of_ble_eq_true rfl) ⟨Nat.le_of_ble_eq_true rfl, Nat.le_of_ble_eq_true rfl⟩ rfl dX10_greatestBy_15) h (fun r3 f4 H locs p5 h => ?_)
      obtain ⟨ir3, tf4, ogf4⟩ := p5
      have egf4 := Fr.nil2 ogf4
      subst egf4
      refine lv_icmp_ge (tgt := 98) hx hb dX10_greatestBy_18 (by decide) (fun c6 => ?_) (fun c6 => ?_)
      · have c7 : r3.toInt ≤ v9_4.toInt := Int32.le_iff_toInt_le.mp c6
        refine lv_iload_n hx hb dX10_greatestBy_98 rfl (lv_at hl 2 rfl) ?_
        exact u_iret C h hr hQ (⟨iv9_2, t_9, o_9⟩) (Nat.le_of_ble_eq_true rfl) (Nat.le_of_ble_eq_true rfl) dX10_greatestBy_99
      · have c8 : v9_4.toInt < r3.toInt := Int32.lt_iff_toInt_lt.mp (iv_nle c6)
        have i9 : iv v9_4 0 7 := iv_Ll c8 iv9_4 ir3 (by decide)
        have i10 : iv r3 1 8 := iv_Lr c8 iv9_4 ir3 (by decide)
        refine lv_aload_n hx hb dX10_greatestBy_21 rfl (lv_at hl 0 rfl) ?_
        refine t_getr (tq := 12) C h t_9 hu0 (by decide) wf_10 rfl fl_X10_19 dX10_greatestBy_22 (fun q11 tq11 => ?_)
        refine lv_iload hx hb dX10_greatestBy_25 (lv_at hl 4 rfl) ?_
        obtain ⟨_, r12⟩ := t_rec t_9 tq11 (by decide) wf_12
        refine k_q (r_V C h hl (As := [.int v9_4]) (rest := []) (s_X0_find l D G b0 τ f_9 t_9 q11 tq11 v9_4 (iv_w i9 (by decide))) r12 (Cn := RX0) (T := TX0) (N := 6) rfl rfl mk_X0_find w_594 w_595 w_596 w_597 ⟨Nat.le_of_ble_eq_true rfl, Nat.le_of_ble_eq_true rfl⟩ rfl (Nat.le_of_ble_eq_true rfl) ⟨Nat.le_of_ble_eq_true rfl, Nat.le_of_ble_eq_true rfl⟩ rfl dX10_greatestBy_27) h (fun r13 f14 H locs p15 h => ?_)
        obtain ⟨qr13, tf14, ogf14⟩ := p15
        have egf14 := Fr.nil2 ogf14
        subst egf14
        have tr13 := qr13
        refine lv_astoreO (lv' := [(5, va_rf r13), (0, .ref u0), (1, .int u1), (2, .int v9_2), (3, .int v9_3), (4, .int v9_4)]) hx hb dX10_greatestBy_30 hl (by decide) rfl (fun ls hl => ?_)
        refine lv_aloadO hx hb dX10_greatestBy_32 (lv_at hl 0 rfl) ?_
        rcases va_rfc r13 with eq17 | ⟨q17, eq17⟩
        · subst eq17
          have hl : lv_has ls 7 [(5, .null), (0, .ref u0), (1, .int u1), (2, .int v9_2), (3, .int v9_3), (4, .int v9_4)] := hl
          show W _ _ _ _ _ _ _ _ _ _ _ _ _ _ _ (F0 m 34 ls [.null])
          refine lv_ifnonnullN hx hb dX10_greatestBy_34 ?_
          refine lv_goto (tgt := 92) hx hb dX10_greatestBy_37 (by decide) ?_
          refine i_inc hx hb dX10_greatestBy_92 hl (k := 5) rfl i9 rfl (lo := 1) (hi := 8) (by decide) (by decide) (lv' := fun v => [(4, .int v), (5, .null), (0, .ref u0), (1, .int u1), (2, .int v9_2), (3, .int v9_3)]) (fun _ => rfl) (fun z18 ls ez18 mz18 iz18 hl => ?_)
          refine lv_goto (tgt := 9) hx hb dX10_greatestBy_95 (by decide) ?_
          exact ih9 ls f_9 H locs v9_2 v9_3 z18 (show 8 - z18.toInt < _ by omega) (lv_cons hl 2 rfl (lv_cons hl 3 rfl (lv_cons hl 4 rfl (lv_cons hl 5 rfl (lv_cons hl 0 rfl (lv_nil hl)))))) h t_9 o_9 iv9_2 iv9_3 (iv_w iz18 (by decide))
        · subst eq17
          have tq17 : τ q17 = 1 := tr13 _ rfl
          have hl : lv_has ls 7 [(5, .ref q17), (0, .ref u0), (1, .int u1), (2, .int v9_2), (3, .int v9_3), (4, .int v9_4)] := hl
          show W _ _ _ _ _ _ _ _ _ _ _ _ _ _ _ (F0 m 34 ls [.ref q17])
          refine lv_ifnonnull (tgt := 40) hx hb dX10_greatestBy_34 (by decide) ?_
          refine lv_iload_n hx hb dX10_greatestBy_40 rfl (lv_at hl 2 rfl) ?_
          refine lv_iconst (v := 2) hx hb dX10_greatestBy_41 (by decide) ?_
          refine lv_icmp_ne (tgt := 57) hx hb dX10_greatestBy_42 (by decide) (fun c19 => ?_) (fun c19 => ?_)
          · have c20 : u1.toInt ≠ 2 := fun z_ => c19 (Int32.toInt_inj.mp z_)
            refine lv_iload_n hx hb dX10_greatestBy_57 rfl (lv_at hl 2 rfl) ?_
            refine lv_iconst (v := 1) hx hb dX10_greatestBy_58 (by decide) ?_
            refine lv_icmp_ne (tgt := 70) hx hb dX10_greatestBy_59 (by decide) (fun c23 => ?_) (fun c23 => ?_)
            · have c24 : u1.toInt ≠ 1 := fun z_ => c23 (Int32.toInt_inj.mp z_)
              refine lv_aload hx hb dX10_greatestBy_70 (lv_at hl 0 rfl) ?_
              obtain ⟨_, r27⟩ := t_rec t_9 tq17 (by decide) wf_1
              refine k_i (r_V C h hl (As := []) (rest := []) (s_X6_bits l D G b0 τ f_9 t_9 q17 tq17) r27 (Cn := RX6) (T := TX6) (N := 4) rfl rfl mk_X6_bits w_998 w_680 w_681 w_682 ⟨Nat.le_of_ble_eq_true rfl, Nat.le_of_ble_eq_true rfl⟩ rfl (Nat.le_of_ble_eq_true rfl) ⟨Nat.le_of_ble_eq_true rfl, Nat.le_of_ble_eq_true rfl⟩ rfl dX10_greatestBy_72) h (fun r28 f29 H locs p30 h => ?_)
              obtain ⟨ir28, tf29, ogf29⟩ := p30
              have egf29 := Fr.nil2 ogf29
              subst egf29
              refine k_i (r_S C h hl (As := [.int r28]) (rest := []) (s_J6_bitCount_0f7a4 l D G b0 τ f_9 t_9 r28 ir28) mk_J6_bitCount_0f7a4 w_1342 w_1343 w_1344 ⟨Nat.le_of_ble_eq_true rfl, Nat.le_of_ble_eq_true rfl⟩ rfl (Nat.le_of_ble_eq_true rfl) ⟨Nat.le_of_ble_eq_true rfl, Nat.le_of_ble_eq_true rfl⟩ rfl dX10_greatestBy_75) h (fun r31 f32 H locs p33 h => ?_)
              obtain ⟨ir31, tf32, ogf32⟩ := p33
              have egf32 := Fr.nil2 ogf32
              subst egf32
              refine lv_istore (lv' := [(6, .int r31), (5, .ref q17), (0, .ref u0), (1, .int u1), (2, .int v9_2), (3, .int v9_3), (4, .int v9_4)]) hx hb dX10_greatestBy_78 hl (by decide) rfl (fun ls hl => ?_)
              refine lv_iload hx hb dX10_greatestBy_80 (lv_at hl 0 rfl) ?_
              refine lv_iload_n hx hb dX10_greatestBy_82 rfl (lv_at hl 5 rfl) ?_
              refine lv_icmp_le (tgt := 92) hx hb dX10_greatestBy_83 (by decide) (fun c34 => ?_) (fun c34 => ?_)
              · have c35 : r31.toInt ≤ v9_3.toInt := Int32.le_iff_toInt_le.mp c34
                have i36 : iv v9_3 0 2147483647 := iv_Er c35 ir31 iv9_3 (by decide)
                refine i_inc hx hb dX10_greatestBy_92 hl (k := 6) rfl i9 rfl (lo := 1) (hi := 8) (by decide) (by decide) (lv' := fun v => [(4, .int v), (6, .int r31), (5, .ref q17), (0, .ref u0), (1, .int u1), (2, .int v9_2), (3, .int v9_3)]) (fun _ => rfl) (fun z39 ls ez39 mz39 iz39 hl => ?_)
                refine lv_goto (tgt := 9) hx hb dX10_greatestBy_95 (by decide) ?_
                exact ih9 ls f_9 H locs v9_2 v9_3 z39 (show 8 - z39.toInt < _ by omega) (lv_cons hl 3 rfl (lv_cons hl 4 rfl (lv_cons hl 5 rfl (lv_cons hl 6 rfl (lv_cons hl 0 rfl (lv_nil hl)))))) h t_9 o_9 iv9_2 (iv_w i36 (by decide)) (iv_w iz39 (by decide))
              · have c37 : v9_3.toInt < r31.toInt := Int32.lt_iff_toInt_lt.mp (iv_nle c34)
                have i38 : iv v9_3 (-2147483648) 62 := iv_Ll c37 iv9_3 ir31 (by decide)
                refine lv_iload hx hb dX10_greatestBy_86 (lv_at hl 0 rfl) ?_
                refine lv_istore_n (lv' := [(3, .int r31), (6, .int r31), (5, .ref q17), (0, .ref u0), (1, .int u1), (2, .int v9_2), (4, .int v9_4)]) hx hb dX10_greatestBy_88 rfl hl (by decide) rfl (fun ls hl => ?_)
                refine lv_iload hx hb dX10_greatestBy_89 (lv_at hl 6 rfl) ?_
                refine lv_istore_n (lv' := [(2, .int v9_4), (3, .int r31), (6, .int r31), (5, .ref q17), (0, .ref u0), (1, .int u1), (4, .int v9_4)]) hx hb dX10_greatestBy_91 rfl hl (by decide) rfl (fun ls hl => ?_)
                refine i_inc hx hb dX10_greatestBy_92 hl (k := 6) rfl i9 rfl (lo := 1) (hi := 8) (by decide) (by decide) (lv' := fun v => [(4, .int v), (2, .int v9_4), (3, .int r31), (6, .int r31), (5, .ref q17), (0, .ref u0), (1, .int u1)]) (fun _ => rfl) (fun z40 ls ez40 mz40 iz40 hl => ?_)
                refine lv_goto (tgt := 9) hx hb dX10_greatestBy_95 (by decide) ?_
                exact ih9 ls f_9 H locs v9_4 r31 z40 (show 8 - z40.toInt < _ by omega) (lv_cons hl 5 rfl (lv_cons hl 6 rfl (lv_cons hl 1 rfl (lv_cons hl 2 rfl (lv_cons hl 0 rfl (lv_nil hl)))))) h t_9 o_9 (iv_w i9 (by decide)) (iv_w ir31 (by decide)) (iv_w iz40 (by decide))
            · have c25 : u1.toInt = 1 := congrArg Int32.toInt c23
              have i26 : iv u1 1 1 := iv_Q c25 hu1 (iv_k (x := 1) (k := 1) rfl) (by decide)
              refine lv_aload hx hb dX10_greatestBy_62 (lv_at hl 0 rfl) ?_
              obtain ⟨_, r41⟩ := t_rec t_9 tq17 (by decide) wf_1
              refine k_i (r_V C h hl (As := []) (rest := []) (s_X6_weightTotal l D G b0 τ f_9 t_9 q17 tq17) r41 (Cn := RX6) (T := TX6) (N := 4) rfl rfl mk_X6_weightTotal w_636 w_637 w_638 w_639 ⟨Nat.le_of_ble_eq_true rfl, Nat.le_of_ble_eq_true rfl⟩ rfl (Nat.le_of_ble_eq_true rfl) ⟨Nat.le_of_ble_eq_true rfl, Nat.le_of_ble_eq_true rfl⟩ rfl dX10_greatestBy_64) h (fun r42 f43 H locs p44 h => ?_)
              obtain ⟨ir42, tf43, ogf43⟩ := p44
              have egf43 := Fr.nil2 ogf43
              subst egf43
              refine lv_goto (tgt := 78) hx hb dX10_greatestBy_67 (by decide) ?_
              refine lv_istore (lv' := [(6, .int r42), (5, .ref q17), (0, .ref u0), (1, .int u1), (2, .int v9_2), (3, .int v9_3), (4, .int v9_4)]) hx hb dX10_greatestBy_78 hl (by decide) rfl (fun ls hl => ?_)
              refine lv_iload hx hb dX10_greatestBy_80 (lv_at hl 0 rfl) ?_
              refine lv_iload_n hx hb dX10_greatestBy_82 rfl (lv_at hl 5 rfl) ?_
              refine lv_icmp_le (tgt := 92) hx hb dX10_greatestBy_83 (by decide) (fun c45 => ?_) (fun c45 => ?_)
              · have c46 : r42.toInt ≤ v9_3.toInt := Int32.le_iff_toInt_le.mp c45
                refine i_inc hx hb dX10_greatestBy_92 hl (k := 6) rfl i9 rfl (lo := 1) (hi := 8) (by decide) (by decide) (lv' := fun v => [(4, .int v), (6, .int r42), (5, .ref q17), (0, .ref u0), (1, .int u1), (2, .int v9_2), (3, .int v9_3)]) (fun _ => rfl) (fun z50 ls ez50 mz50 iz50 hl => ?_)
                refine lv_goto (tgt := 9) hx hb dX10_greatestBy_95 (by decide) ?_
                exact ih9 ls f_9 H locs v9_2 v9_3 z50 (show 8 - z50.toInt < _ by omega) (lv_cons hl 3 rfl (lv_cons hl 4 rfl (lv_cons hl 5 rfl (lv_cons hl 6 rfl (lv_cons hl 0 rfl (lv_nil hl)))))) h t_9 o_9 iv9_2 iv9_3 (iv_w iz50 (by decide))
              · have c47 : v9_3.toInt < r42.toInt := Int32.lt_iff_toInt_lt.mp (iv_nle c45)
                have i48 : iv v9_3 (-2147483648) 2147483646 := iv_Ll c47 iv9_3 ir42 (by decide)
                have i49 : iv r42 (-2147483647) 2147483647 := iv_Lr c47 iv9_3 ir42 (by decide)
                refine lv_iload hx hb dX10_greatestBy_86 (lv_at hl 0 rfl) ?_
                refine lv_istore_n (lv' := [(3, .int r42), (6, .int r42), (5, .ref q17), (0, .ref u0), (1, .int u1), (2, .int v9_2), (4, .int v9_4)]) hx hb dX10_greatestBy_88 rfl hl (by decide) rfl (fun ls hl => ?_)
                refine lv_iload hx hb dX10_greatestBy_89 (lv_at hl 6 rfl) ?_
                refine lv_istore_n (lv' := [(2, .int v9_4), (3, .int r42), (6, .int r42), (5, .ref q17), (0, .ref u0), (1, .int u1), (4, .int v9_4)]) hx hb dX10_greatestBy_91 rfl hl (by decide) rfl (fun ls hl => ?_)
                refine i_inc hx hb dX10_greatestBy_92 hl (k := 6) rfl i9 rfl (lo := 1) (hi := 8) (by decide) (by decide) (lv' := fun v => [(4, .int v), (2, .int v9_4), (3, .int r42), (6, .int r42), (5, .ref q17), (0, .ref u0), (1, .int u1)]) (fun _ => rfl) (fun z51 ls ez51 mz51 iz51 hl => ?_)
                refine lv_goto (tgt := 9) hx hb dX10_greatestBy_95 (by decide) ?_
                exact ih9 ls f_9 H locs v9_4 r42 z51 (show 8 - z51.toInt < _ by omega) (lv_cons hl 5 rfl (lv_cons hl 6 rfl (lv_cons hl 1 rfl (lv_cons hl 2 rfl (lv_cons hl 0 rfl (lv_nil hl)))))) h t_9 o_9 (iv_w i9 (by decide)) (iv_w i49 (by decide)) (iv_w iz51 (by decide))
          · have c21 : u1.toInt = 2 := congrArg Int32.toInt c19
            have i22 : iv u1 2 2 := iv_Q c21 hu1 (iv_k (x := 2) (k := 2) rfl) (by decide)
            refine lv_aload_n hx hb dX10_greatestBy_45 rfl (lv_at hl 1 rfl) ?_
            refine t_getr (tq := 35) C h t_9 hu0 (by decide) wf_10 rfl fl_X10_40 dX10_greatestBy_46 (fun q52 tq52 => ?_)
            refine lv_aload hx hb dX10_greatestBy_49 (lv_at hl 0 rfl) ?_
            obtain ⟨_, r53⟩ := t_rec t_9 tq52 (by decide) wf_35
            refine k_i (r_V C h hl (As := [.ref q17]) (rest := []) (s_X8_greatest l D G b0 τ f_9 t_9 q52 tq52 q17 tq17) r53 (Cn := RX8) (T := TX8) (N := 2) rfl rfl mk_X8_greatest w_980 w_981 w_982 w_983 ⟨Nat.le_of_ble_eq_true rfl, Nat.le_of_ble_eq_true rfl⟩ rfl (Nat.le_of_ble_eq_true rfl) ⟨Nat.le_of_ble_eq_true rfl, Nat.le_of_ble_eq_true rfl⟩ rfl dX10_greatestBy_51) h (fun r54 f55 H locs p56 h => ?_)
            obtain ⟨ir54, tf55, ogf55⟩ := p56
            have of55 : Fr [36, 80] τ f f55 := Fr.tr o_9 ogf55 (by decide) (by decide)
            refine lv_goto (tgt := 78) hx hb dX10_greatestBy_54 (by decide) ?_
            refine lv_istore (lv' := [(6, .int r54), (5, .ref q17), (0, .ref u0), (1, .int u1), (2, .int v9_2), (3, .int v9_3), (4, .int v9_4)]) hx hb dX10_greatestBy_78 hl (by decide) rfl (fun ls hl => ?_)
            refine lv_iload hx hb dX10_greatestBy_80 (lv_at hl 0 rfl) ?_
            refine lv_iload_n hx hb dX10_greatestBy_82 rfl (lv_at hl 5 rfl) ?_
            refine lv_icmp_le (tgt := 92) hx hb dX10_greatestBy_83 (by decide) (fun c57 => ?_) (fun c57 => ?_)
            · have c58 : r54.toInt ≤ v9_3.toInt := Int32.le_iff_toInt_le.mp c57
              have i59 : iv v9_3 (-1) 2147483647 := iv_Er c58 ir54 iv9_3 (by decide)
              refine i_inc hx hb dX10_greatestBy_92 hl (k := 6) rfl i9 rfl (lo := 1) (hi := 8) (by decide) (by decide) (lv' := fun v => [(4, .int v), (6, .int r54), (5, .ref q17), (0, .ref u0), (1, .int u1), (2, .int v9_2), (3, .int v9_3)]) (fun _ => rfl) (fun z62 ls ez62 mz62 iz62 hl => ?_)
              refine lv_goto (tgt := 9) hx hb dX10_greatestBy_95 (by decide) ?_
              exact ih9 ls f55 H locs v9_2 v9_3 z62 (show 8 - z62.toInt < _ by omega) (lv_cons hl 3 rfl (lv_cons hl 4 rfl (lv_cons hl 5 rfl (lv_cons hl 6 rfl (lv_cons hl 0 rfl (lv_nil hl)))))) h tf55 of55 iv9_2 (iv_w i59 (by decide)) (iv_w iz62 (by decide))
            · have c60 : v9_3.toInt < r54.toInt := Int32.lt_iff_toInt_lt.mp (iv_nle c57)
              have i61 : iv v9_3 (-2147483648) 39 := iv_Ll c60 iv9_3 ir54 (by decide)
              refine lv_iload hx hb dX10_greatestBy_86 (lv_at hl 0 rfl) ?_
              refine lv_istore_n (lv' := [(3, .int r54), (6, .int r54), (5, .ref q17), (0, .ref u0), (1, .int u1), (2, .int v9_2), (4, .int v9_4)]) hx hb dX10_greatestBy_88 rfl hl (by decide) rfl (fun ls hl => ?_)
              refine lv_iload hx hb dX10_greatestBy_89 (lv_at hl 6 rfl) ?_
              refine lv_istore_n (lv' := [(2, .int v9_4), (3, .int r54), (6, .int r54), (5, .ref q17), (0, .ref u0), (1, .int u1), (4, .int v9_4)]) hx hb dX10_greatestBy_91 rfl hl (by decide) rfl (fun ls hl => ?_)
              refine i_inc hx hb dX10_greatestBy_92 hl (k := 6) rfl i9 rfl (lo := 1) (hi := 8) (by decide) (by decide) (lv' := fun v => [(4, .int v), (2, .int v9_4), (3, .int r54), (6, .int r54), (5, .ref q17), (0, .ref u0), (1, .int u1)]) (fun _ => rfl) (fun z63 ls ez63 mz63 iz63 hl => ?_)
              refine lv_goto (tgt := 9) hx hb dX10_greatestBy_95 (by decide) ?_
              exact ih9 ls f55 H locs v9_4 r54 z63 (show 8 - z63.toInt < _ by omega) (lv_cons hl 5 rfl (lv_cons hl 6 rfl (lv_cons hl 1 rfl (lv_cons hl 2 rfl (lv_cons hl 0 rfl (lv_nil hl)))))) h tf55 of55 (iv_w i9 (by decide)) (iv_w ir54 (by decide)) (iv_w iz63 (by decide))
  refine lv_iconst (v := -1) hx hb dX10_greatestBy_0 (by decide) ?_
  refine lv_istore_n (lv' := [(2, .int (-1)), (0, .ref u0), (1, .int u1)]) hx hb dX10_greatestBy_1 rfl hl (by decide) rfl (fun ls hl => ?_)
  refine lv_ldcw (v := -2147483648) hx hb hown (hts _ w_1341) dX10_greatestBy_2 ?_
  refine lv_istore_n (lv' := [(3, .int (-2147483648)), (2, .int (-1)), (0, .ref u0), (1, .int u1)]) hx hb dX10_greatestBy_5 rfl hl (by decide) rfl (fun ls hl => ?_)
  refine lv_iconst (v := 0) hx hb dX10_greatestBy_6 (by decide) ?_
  refine lv_istore (lv' := [(4, .int 0), (3, .int (-2147483648)), (2, .int (-1)), (0, .ref u0), (1, .int u1)]) hx hb dX10_greatestBy_7 hl (by decide) rfl (fun ls hl => ?_)
  exact L9 9 ls f s.heap [] (-1) (-2147483648) 0 (by decide) (lv_cons hl 3 rfl (lv_cons hl 4 rfl (lv_cons hl 2 rfl (lv_cons hl 1 rfl (lv_cons hl 0 rfl (lv_nil hl)))))) h t o ⟨by decide, by decide⟩ ⟨by decide, by decide⟩ ⟨by decide, by decide⟩
abbrev rm_s_X10_most : Room := { frames := 6, cells := 0, slots := 0, locals := 147 }
set_option maxRecDepth 100000 in
set_option maxHeartbeats 4000000 in
theorem s_X10_most (l : Launch) (D : va_G) (G : Nat → Nat) (b0 : Nat) (τ : Nat → Nat) (f : hM) (t : TI G 9 τ f) (u0 : Nat) (hu0 : τ u0 = 10) (u1 : Int32) (hu1 : iv u1 (-2147483648) 2147483647) : mI l yX10_most cX10_most 2 (.int) rm_s_X10_most D G b0 f [.ref u0, .int u1] (fun r f1 => iv r (-2147483648) 2147483647 ∧ TI G 9 τ f1 ∧ Fr [36, 80] τ f f1) := by
  refine met2 (own := RX10) (by decide) rfl (Nat.le_of_ble_eq_true rfl) ?_
  intro p e s m args below meth c ls Q hQ C hr hini hl h
  have hl : lv_has ls 2 [(0, .ref u0), (1, .int u1)] := hl
  obtain ⟨hx, hb, hml, hown, hts, hE0, hlk⟩ := id C
  have o := Fr.rf [36, 80] τ f
  refine lv_iload_n hx hb dX10_most_0 rfl (lv_at hl 1 rfl) ?_
  refine lv_iconst (v := 0) hx hb dX10_most_1 (by decide) ?_
  refine lv_iconst (v := 4) hx hb dX10_most_2 (by decide) ?_
  refine k_i (r_S C h hl (As := [.int u1, .int 0, .int 4]) (rest := []) (s_X10_within l D G b0 τ f t u1 hu1 0 (iv_w (iv_k (x := 0) (k := 0) rfl) (by decide)) 4 (iv_w (iv_k (x := 4) (k := 4) rfl) (by decide))) mk_X10_within w_425 w_426 w_427 ⟨Nat.le_of_ble_eq_true rfl, Nat.le_of_ble_eq_true rfl⟩ rfl (Nat.le_of_ble_eq_true rfl) ⟨Nat.le_of_ble_eq_true rfl, Nat.le_of_ble_eq_true rfl⟩ rfl dX10_most_3) h (fun r1 f2 H locs p3 h => ?_)
  have n4 : (0 : Int32).toInt = 0 := rfl
  have n5 : (4 : Int32).toInt = 4 := rfl
  obtain ⟨ir1, tf2, ogf2, cnr1, czr1⟩ := p3
  have egf2 := Fr.nil2 ogf2
  subst egf2
  refine lv_if_ne (tgt := 11) hx hb dX10_most_6 (by decide) (fun c6 => ?_) (fun c6 => ?_)
  · have c7 : r1.toInt ≠ 0 := fun z_ => c6 (Int32.toInt_inj.mp z_)
    have i8 : iv r1 1 1 := iv_Nl c7 ir1 (by decide)
    obtain ⟨i9, i10⟩ := cnr1 c7
    have i11 : iv u1 0 4 := ⟨by omega, by omega⟩
    refine lv_iload_n hx hb dX10_most_11 rfl (lv_at hl 1 rfl) ?_
    refine lv_iconst (v := 3) hx hb dX10_most_12 (by decide) ?_
    refine lv_icmp_ne (tgt := 21) hx hb dX10_most_13 (by decide) (fun c15 => ?_) (fun c15 => ?_)
    · have c16 : u1.toInt ≠ 3 := fun z_ => c15 (Int32.toInt_inj.mp z_)
      refine lv_aload_n hx hb dX10_most_21 rfl (lv_at hl 0 rfl) ?_
      refine t_getr (tq := 12) C h t hu0 (by decide) wf_10 rfl fl_X10_19 dX10_most_22 (fun q19 tq19 => ?_)
      obtain ⟨_, r20⟩ := t_rec t tq19 (by decide) wf_12
      refine k_i (r_V C h hl (As := []) (rest := []) (s_X0_size l D G b0 τ f t q19 tq19) r20 (Cn := RX0) (T := TX0) (N := 6) rfl rfl mk_X0_size w_1321 w_1322 w_1323 w_1324 ⟨Nat.le_of_ble_eq_true rfl, Nat.le_of_ble_eq_true rfl⟩ rfl (Nat.le_of_ble_eq_true rfl) ⟨Nat.le_of_ble_eq_true rfl, Nat.le_of_ble_eq_true rfl⟩ rfl dX10_most_25) h (fun r21 f22 H locs p23 h => ?_)
      obtain ⟨ir21, tf22, ogf22⟩ := p23
      have egf22 := Fr.nil2 ogf22
      subst egf22
      refine lv_if_ne (tgt := 33) hx hb dX10_most_28 (by decide) (fun c24 => ?_) (fun c24 => ?_)
      · have c25 : r21.toInt ≠ 0 := fun z_ => c24 (Int32.toInt_inj.mp z_)
        have i26 : iv r21 1 8 := iv_Nl c25 ir21 (by decide)
        refine lv_iload_n hx hb dX10_most_33 rfl (lv_at hl 1 rfl) ?_
        refine lv_iconst (v := 4) hx hb dX10_most_34 (by decide) ?_
        refine lv_icmp_ne (tgt := 45) hx hb dX10_most_35 (by decide) (fun c29 => ?_) (fun c29 => ?_)
        · have c30 : u1.toInt ≠ 4 := fun z_ => c29 (Int32.toInt_inj.mp z_)
          have i31 : iv u1 0 3 := iv_Nh c30 i11 (by decide)
          refine lv_aload_n hx hb dX10_most_45 rfl (lv_at hl 0 rfl) ?_
          refine lv_iload_n hx hb dX10_most_46 rfl (lv_at hl 1 rfl) ?_
          obtain ⟨_, r34⟩ := t_rec t hu0 (by decide) wf_10
          refine k_i (r_V C h hl (As := [.int u1]) (rest := []) (s_X10_greatestBy l D G b0 τ f t u0 hu0 u1 (iv_w i31 (by decide))) r34 (Cn := RX10) (T := TX10) (N := 10) rfl rfl mk_X10_greatestBy w_1337 w_1339 w_35 w_1340 ⟨Nat.le_of_ble_eq_true rfl, Nat.le_of_ble_eq_true rfl⟩ rfl (Nat.le_of_ble_eq_true rfl) ⟨Nat.le_of_ble_eq_true rfl, Nat.le_of_ble_eq_true rfl⟩ rfl dX10_most_47) h (fun r35 f36 H locs p37 h => ?_)
          obtain ⟨ir35, tf36, ogf36⟩ := p37
          have of36 : Fr [36, 80] τ f f36 := Fr.tr o ogf36 (by decide) (by decide)
          exact u_iret C h hr hQ (⟨(iv_w ir35 (by decide)), tf36, of36⟩) (Nat.le_of_ble_eq_true rfl) (Nat.le_of_ble_eq_true rfl) dX10_most_50
        · have c32 : u1.toInt = 4 := congrArg Int32.toInt c29
          have i33 : iv u1 4 4 := iv_Q c32 i11 (iv_k (x := 4) (k := 4) rfl) (by decide)
          refine lv_aload_n hx hb dX10_most_38 rfl (lv_at hl 0 rfl) ?_
          obtain ⟨_, r38⟩ := t_rec t hu0 (by decide) wf_10
          refine k_i (r_V C h hl (As := []) (rest := []) (s_X10_commonSteps l D G b0 τ f t u0 hu0) r38 (Cn := RX10) (T := TX10) (N := 10) rfl rfl mk_X10_commonSteps w_1333 w_1335 w_34 w_1336 ⟨Nat.le_of_ble_eq_true rfl, Nat.le_of_ble_eq_true rfl⟩ rfl (Nat.le_of_ble_eq_true rfl) ⟨Nat.le_of_ble_eq_true rfl, Nat.le_of_ble_eq_true rfl⟩ rfl dX10_most_39) h (fun r39 f40 H locs p41 h => ?_)
          obtain ⟨ir39, tf40, ogf40⟩ := p41
          have egf40 := Fr.nil2 ogf40
          subst egf40
          refine lv_goto (tgt := 50) hx hb dX10_most_42 (by decide) ?_
          exact u_iret C h hr hQ (⟨ir39, t, o⟩) (Nat.le_of_ble_eq_true rfl) (Nat.le_of_ble_eq_true rfl) dX10_most_50
      · have c27 : r21.toInt = 0 := congrArg Int32.toInt c24
        have i28 : iv r21 0 0 := iv_Q c27 ir21 (iv_k (x := 0) (k := 0) rfl) (by decide)
        refine lv_iconst (v := -1) hx hb dX10_most_31 (by decide) ?_
        exact u_iret C h hr hQ (⟨⟨by decide, by decide⟩, t, o⟩) (Nat.le_of_ble_eq_true rfl) (Nat.le_of_ble_eq_true rfl) dX10_most_32
    · have c17 : u1.toInt = 3 := congrArg Int32.toInt c15
      have i18 : iv u1 3 3 := iv_Q c17 i11 (iv_k (x := 3) (k := 3) rfl) (by decide)
      refine lv_aload_n hx hb dX10_most_16 rfl (lv_at hl 0 rfl) ?_
      obtain ⟨_, r42⟩ := t_rec t hu0 (by decide) wf_10
      refine k_i (r_V C h hl (As := []) (rest := []) (s_X10_unlikeSets l D G b0 τ f t u0 hu0) r42 (Cn := RX10) (T := TX10) (N := 10) rfl rfl mk_X10_unlikeSets w_1317 w_1319 w_32 w_1320 ⟨Nat.le_of_ble_eq_true rfl, Nat.le_of_ble_eq_true rfl⟩ rfl (Nat.le_of_ble_eq_true rfl) ⟨Nat.le_of_ble_eq_true rfl, Nat.le_of_ble_eq_true rfl⟩ rfl dX10_most_17) h (fun r43 f44 H locs p45 h => ?_)
      obtain ⟨ir43, tf44, ogf44⟩ := p45
      have egf44 := Fr.nil2 ogf44
      subst egf44
      exact u_iret C h hr hQ (⟨ir43, t, o⟩) (Nat.le_of_ble_eq_true rfl) (Nat.le_of_ble_eq_true rfl) dX10_most_20
  · have c12 : r1.toInt = 0 := congrArg Int32.toInt c6
    have i13 : iv r1 0 0 := iv_Q c12 ir1 (iv_k (x := 0) (k := 0) rfl) (by decide)
    have i14 := czr1 c12
    refine lv_iconst (v := -1) hx hb dX10_most_9 (by decide) ?_
    exact u_iret C h hr hQ (⟨⟨by decide, by decide⟩, t, o⟩) (Nat.le_of_ble_eq_true rfl) (Nat.le_of_ble_eq_true rfl) dX10_most_10
abbrev rm_s_X10_count : Room := { frames := 1, cells := 0, slots := 0, locals := 20 }
set_option maxRecDepth 100000 in
set_option maxHeartbeats 4000000 in
theorem s_X10_count (l : Launch) (D : va_G) (G : Nat → Nat) (b0 : Nat) (τ : Nat → Nat) (f : hM) (t : TI G 9 τ f) (u0 : Nat) (hu0 : τ u0 = 10) (u1 : Int32) (hu1 : iv u1 (-2147483648) 2147483647) : mI l yX10_count cX10_count 2 (.int) rm_s_X10_count D G b0 f [.ref u0, .int u1] (fun r f1 => iv r (-1) 200 ∧ TI G 9 τ f1 ∧ Fr [] τ f f1) := by
  refine met2 (own := RX10) (by decide) rfl (Nat.le_of_ble_eq_true rfl) ?_
  intro p e s m args below meth c ls Q hQ C hr hini hl h
  have hl : lv_has ls 2 [(0, .ref u0), (1, .int u1)] := hl
  obtain ⟨hx, hb, hml, hown, hts, hE0, hlk⟩ := id C
  have o := Fr.rf [] τ f
  refine lv_iload_n hx hb dX10_count_0 rfl (lv_at hl 1 rfl) ?_
  rcases sw_0_2 u1 with c1 | c1 | c1 | c1
  · refine lv_tableIn (tgt := 28) hx hb dX10_count_1 (by rw [c1]; decide) (by rw [c1]; decide) (off := 27) (by rw [c1]; rfl) (by decide) ?_
    have i2 : iv u1 0 0 := by rw [c1]; exact iv_k rfl
    refine lv_aload_n hx hb dX10_count_28 rfl (lv_at hl 0 rfl) ?_
    refine t_getr (tq := 11) C h t hu0 (by decide) wf_10 rfl fl_X10_12 dX10_count_29 (fun q5 tq5 => ?_)
    refine t_geti C h t tq5 (by decide) wf_11 rfl fl_X10_79 dX10_count_32 (fun z6 iz6 => ?_)
    exact u_iret C h hr hQ (⟨(iv_w iz6 (by decide)), t, o⟩) (Nat.le_of_ble_eq_true rfl) (Nat.le_of_ble_eq_true rfl) dX10_count_35
  · refine lv_tableIn (tgt := 36) hx hb dX10_count_1 (by rw [c1]; decide) (by rw [c1]; decide) (off := 35) (by rw [c1]; rfl) (by decide) ?_
    have i3 : iv u1 1 1 := by rw [c1]; exact iv_k rfl
    refine lv_aload_n hx hb dX10_count_36 rfl (lv_at hl 0 rfl) ?_
    refine t_getr (tq := 12) C h t hu0 (by decide) wf_10 rfl fl_X10_19 dX10_count_37 (fun q7 tq7 => ?_)
    refine t_geti C h t tq7 (by decide) wf_12 rfl fl_X10_379 dX10_count_40 (fun z8 iz8 => ?_)
    exact u_iret C h hr hQ (⟨(iv_w iz8 (by decide)), t, o⟩) (Nat.le_of_ble_eq_true rfl) (Nat.le_of_ble_eq_true rfl) dX10_count_43
  · refine lv_tableIn (tgt := 44) hx hb dX10_count_1 (by rw [c1]; decide) (by rw [c1]; decide) (off := 43) (by rw [c1]; rfl) (by decide) ?_
    have i4 : iv u1 2 2 := by rw [c1]; exact iv_k rfl
    refine lv_aload_n hx hb dX10_count_44 rfl (lv_at hl 0 rfl) ?_
    refine t_getr (tq := 12) C h t hu0 (by decide) wf_10 rfl fl_X10_19 dX10_count_45 (fun q9 tq9 => ?_)
    obtain ⟨_, r10⟩ := t_rec t tq9 (by decide) wf_12
    refine k_i (r_V C h hl (As := []) (rest := []) (s_X0_size l D G b0 τ f t q9 tq9) r10 (Cn := RX0) (T := TX0) (N := 6) rfl rfl mk_X0_size w_1321 w_1322 w_1323 w_1324 ⟨Nat.le_of_ble_eq_true rfl, Nat.le_of_ble_eq_true rfl⟩ rfl (Nat.le_of_ble_eq_true rfl) ⟨Nat.le_of_ble_eq_true rfl, Nat.le_of_ble_eq_true rfl⟩ rfl dX10_count_48) h (fun r11 f12 H locs p13 h => ?_)
    obtain ⟨ir11, tf12, ogf12⟩ := p13
    have egf12 := Fr.nil2 ogf12
    subst egf12
    exact u_iret C h hr hQ (⟨(iv_w ir11 (by decide)), t, o⟩) (Nat.le_of_ble_eq_true rfl) (Nat.le_of_ble_eq_true rfl) dX10_count_51
  · refine lv_tableOut (tgt := 52) hx hb dX10_count_1 c1 (by decide) ?_
    refine lv_iconst (v := -1) hx hb dX10_count_52 (by decide) ?_
    exact u_iret C h hr hQ (⟨⟨by decide, by decide⟩, t, o⟩) (Nat.le_of_ble_eq_true rfl) (Nat.le_of_ble_eq_true rfl) dX10_count_53
