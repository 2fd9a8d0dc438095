theorem dX2_tabulated_0 : decode cX2_tabulated 0 = .ok (.sipush 305, 3) := by decide +kernel
theorem dX2_tabulated_3 : decode cX2_tabulated 3 = .ok (.newarray .int, 2) := by decide +kernel
theorem w_161 : Cond.arrayClass FieldType.int ∈ wAll := wI1 66 (by decide +kernel) (by decide +kernel)
theorem dX2_tabulated_5 : decode cX2_tabulated 5 = .ok (.astore_n 2, 1) := by decide +kernel
theorem dX2_tabulated_6 : decode cX2_tabulated 6 = .ok (.aload_n 0, 1) := by decide +kernel
theorem dX2_tabulated_7 : decode cX2_tabulated 7 = .ok (.aload_n 1, 1) := by decide +kernel
theorem dX2_tabulated_8 : decode cX2_tabulated 8 = .ok (.iconst 0, 1) := by decide +kernel
theorem dX2_tabulated_9 : decode cX2_tabulated 9 = .ok (.iconst 0, 1) := by decide +kernel
theorem dX2_tabulated_10 : decode cX2_tabulated 10 = .ok (.invokevirtual 35, 3) := by decide +kernel
theorem dX2_tabulated_13 : decode cX2_tabulated 13 = .ok (.iconst 0, 1) := by decide +kernel
theorem dX2_tabulated_14 : decode cX2_tabulated 14 = .ok (.istore_n 3, 1) := by decide +kernel
theorem dX2_tabulated_15 : decode cX2_tabulated 15 = .ok (.iload_n 3, 1) := by decide +kernel
theorem dX2_tabulated_16 : decode cX2_tabulated 16 = .ok (.bipush 60, 2) := by decide +kernel
theorem dX2_tabulated_18 : decode cX2_tabulated 18 = .ok (.if_icmp .gt 84, 3) := by decide +kernel
theorem dX2_tabulated_21 : decode cX2_tabulated 21 = .ok (.iload_n 3, 1) := by decide +kernel
theorem dX2_tabulated_22 : decode cX2_tabulated 22 = .ok (.ifCond .le 8, 3) := by decide +kernel
theorem dX2_tabulated_30 : decode cX2_tabulated 30 = .ok (.aload_n 2, 1) := by decide +kernel
theorem dX2_tabulated_31 : decode cX2_tabulated 31 = .ok (.iload_n 3, 1) := by decide +kernel
theorem dX2_tabulated_32 : decode cX2_tabulated 32 = .ok (.aload_n 0, 1) := by decide +kernel
theorem dX2_tabulated_33 : decode cX2_tabulated 33 = .ok (.invokevirtual 129, 3) := by decide +kernel
theorem w_736 : Cond.methodLink "QuarterWalks$Grid" 129 yX2_total ∈ wAll := wI3 161 (by decide +kernel) (by decide +kernel)
theorem w_738 : Cond.selects yX2_total.cls yX2_total yX2_total ∈ wAll := wI3 163 (by decide +kernel) (by decide +kernel)
theorem mk_X2_total : mk yX2_total 0 := ⟨by decide +kernel, w_100⟩
theorem w_737 : Cond.instanceMethod yX2_total ∈ wAll := wI3 162 (by decide +kernel) (by decide +kernel)
theorem w_739 : Cond.code yX2_total cX2_total 6 (some .int) ∈ wAll := wI3 164 (by decide +kernel) (by decide +kernel)
theorem dX2_tabulated_36 : decode cX2_tabulated 36 = .ok (.iastore, 1) := by decide +kernel
theorem dX2_tabulated_37 : decode cX2_tabulated 37 = .ok (.aload_n 2, 1) := by decide +kernel
theorem dX2_tabulated_38 : decode cX2_tabulated 38 = .ok (.bipush 61, 2) := by decide +kernel
theorem dX2_tabulated_40 : decode cX2_tabulated 40 = .ok (.iload_n 3, 1) := by decide +kernel
theorem dX2_tabulated_41 : decode cX2_tabulated 41 = .ok (.iadd, 1) := by decide +kernel
theorem dX2_tabulated_42 : decode cX2_tabulated 42 = .ok (.aload_n 0, 1) := by decide +kernel
theorem dX2_tabulated_43 : decode cX2_tabulated 43 = .ok (.aload_n 0, 1) := by decide +kernel
theorem dX2_tabulated_44 : decode cX2_tabulated 44 = .ok (.getfield 55, 3) := by decide +kernel
theorem dX2_tabulated_47 : decode cX2_tabulated 47 = .ok (.aload_n 0, 1) := by decide +kernel
theorem dX2_tabulated_48 : decode cX2_tabulated 48 = .ok (.getfield 59, 3) := by decide +kernel
theorem dX2_tabulated_51 : decode cX2_tabulated 51 = .ok (.invokevirtual 132, 3) := by decide +kernel
theorem dX2_tabulated_54 : decode cX2_tabulated 54 = .ok (.invokestatic 125, 3) := by decide +kernel
theorem dX2_tabulated_57 : decode cX2_tabulated 57 = .ok (.iastore, 1) := by decide +kernel
theorem dX2_tabulated_58 : decode cX2_tabulated 58 = .ok (.aload_n 2, 1) := by decide +kernel
theorem dX2_tabulated_59 : decode cX2_tabulated 59 = .ok (.bipush 122, 2) := by decide +kernel
theorem dX2_tabulated_61 : decode cX2_tabulated 61 = .ok (.iload_n 3, 1) := by decide +kernel
theorem dX2_tabulated_62 : decode cX2_tabulated 62 = .ok (.iadd, 1) := by decide +kernel
theorem dX2_tabulated_63 : decode cX2_tabulated 63 = .ok (.aload_n 0, 1) := by decide +kernel
theorem dX2_tabulated_64 : decode cX2_tabulated 64 = .ok (.iconst 1, 1) := by decide +kernel
theorem dX2_tabulated_65 : decode cX2_tabulated 65 = .ok (.iconst 0, 1) := by decide +kernel
theorem dX2_tabulated_66 : decode cX2_tabulated 66 = .ok (.invokevirtual 136, 3) := by decide +kernel
theorem w_745 : Cond.methodLink "QuarterWalks$Grid" 136 yX2_alongLine ∈ wAll := wI3 170 (by decide +kernel) (by decide +kernel)
theorem w_19 : Cond.selects yX2_alongLine.cls yX2_alongLine yX2_alongLine ∈ wAll := wIn 19 (by decide +kernel) (by decide +kernel)
theorem mk_X2_alongLine : mk yX2_alongLine 2 := ⟨by decide +kernel, w_100⟩
theorem w_747 : Cond.instanceMethod yX2_alongLine ∈ wAll := wI3 172 (by decide +kernel) (by decide +kernel)
theorem w_748 : Cond.code yX2_alongLine cX2_alongLine 6 (some .int) ∈ wAll := wI3 173 (by decide +kernel) (by decide +kernel)
theorem dX2_tabulated_69 : decode cX2_tabulated 69 = .ok (.iastore, 1) := by decide +kernel
theorem dX2_tabulated_70 : decode cX2_tabulated 70 = .ok (.aload_n 2, 1) := by decide +kernel
theorem dX2_tabulated_71 : decode cX2_tabulated 71 = .ok (.sipush 183, 3) := by decide +kernel
theorem dX2_tabulated_74 : decode cX2_tabulated 74 = .ok (.iload_n 3, 1) := by decide +kernel
theorem dX2_tabulated_75 : decode cX2_tabulated 75 = .ok (.iadd, 1) := by decide +kernel
theorem dX2_tabulated_76 : decode cX2_tabulated 76 = .ok (.aload_n 0, 1) := by decide +kernel
theorem dX2_tabulated_77 : decode cX2_tabulated 77 = .ok (.iconst 0, 1) := by decide +kernel
theorem dX2_tabulated_78 : decode cX2_tabulated 78 = .ok (.iconst 1, 1) := by decide +kernel
theorem dX2_tabulated_79 : decode cX2_tabulated 79 = .ok (.invokevirtual 136, 3) := by decide +kernel
theorem dX2_tabulated_82 : decode cX2_tabulated 82 = .ok (.iastore, 1) := by decide +kernel
theorem dX2_tabulated_83 : decode cX2_tabulated 83 = .ok (.aload_n 2, 1) := by decide +kernel
theorem dX2_tabulated_84 : decode cX2_tabulated 84 = .ok (.sipush 244, 3) := by decide +kernel
theorem dX2_tabulated_87 : decode cX2_tabulated 87 = .ok (.iload_n 3, 1) := by decide +kernel
theorem dX2_tabulated_88 : decode cX2_tabulated 88 = .ok (.iadd, 1) := by decide +kernel
theorem dX2_tabulated_89 : decode cX2_tabulated 89 = .ok (.aload_n 0, 1) := by decide +kernel
theorem dX2_tabulated_90 : decode cX2_tabulated 90 = .ok (.iconst 1, 1) := by decide +kernel
theorem dX2_tabulated_91 : decode cX2_tabulated 91 = .ok (.iconst 1, 1) := by decide +kernel
theorem dX2_tabulated_92 : decode cX2_tabulated 92 = .ok (.invokevirtual 136, 3) := by decide +kernel
theorem dX2_tabulated_95 : decode cX2_tabulated 95 = .ok (.iastore, 1) := by decide +kernel
theorem dX2_tabulated_96 : decode cX2_tabulated 96 = .ok (.iinc 3 1, 3) := by decide +kernel
theorem dX2_tabulated_99 : decode cX2_tabulated 99 = .ok (.goto (-84), 3) := by decide +kernel
theorem dX2_tabulated_25 : decode cX2_tabulated 25 = .ok (.aload_n 0, 1) := by decide +kernel
theorem dX2_tabulated_26 : decode cX2_tabulated 26 = .ok (.iconst 1, 1) := by decide +kernel
theorem dX2_tabulated_27 : decode cX2_tabulated 27 = .ok (.invokevirtual 39, 3) := by decide +kernel
theorem dX2_tabulated_102 : decode cX2_tabulated 102 = .ok (.aload_n 2, 1) := by decide +kernel
theorem dX2_tabulated_103 : decode cX2_tabulated 103 = .ok (.areturn, 1) := by decide +kernel
theorem dX10_terms_0 : decode cX10_terms 0 = .ok (.aload_n 1, 1) := by decide +kernel
theorem dX10_terms_1 : decode cX10_terms 1 = .ok (.getfield 382, 3) := by decide +kernel
theorem w_566 : Cond.fieldLink "QuarterWalks" 382 "QuarterWalks$StepSet" "terms" "[I" ∈ wAll := wI2 231 (by decide +kernel) (by decide +kernel)
theorem fl_X10_382 : fl RX10 382 7 3 := ⟨RX6, TX6, 4, rfl, inA_X6, by decide, w_566⟩
theorem dX10_terms_4 : decode cX10_terms 4 = .ok (.ifnonnull 15, 3) := by decide +kernel
theorem dX10_terms_7 : decode cX10_terms 7 = .ok (.aload_n 1, 1) := by decide +kernel
theorem dX10_terms_8 : decode cX10_terms 8 = .ok (.aload_n 0, 1) := by decide +kernel
theorem dX10_terms_9 : decode cX10_terms 9 = .ok (.getfield 26, 3) := by decide +kernel
theorem dX10_terms_12 : decode cX10_terms 12 = .ok (.aload_n 1, 1) := by decide +kernel
theorem dX10_terms_13 : decode cX10_terms 13 = .ok (.invokevirtual 384, 3) := by decide +kernel
theorem w_732 : Cond.methodLink "QuarterWalks" 384 yX2_tabulated ∈ wAll := wI3 157 (by decide +kernel) (by decide +kernel)
theorem w_734 : Cond.selects yX2_tabulated.cls yX2_tabulated yX2_tabulated ∈ wAll := wI3 159 (by decide +kernel) (by decide +kernel)
theorem mk_X2_tabulated : mk yX2_tabulated 1 := ⟨by decide +kernel, w_100⟩
theorem w_733 : Cond.instanceMethod yX2_tabulated ∈ wAll := wI3 158 (by decide +kernel) (by decide +kernel)
theorem w_735 : Cond.code yX2_tabulated cX2_tabulated 4 (some (.array .int)) ∈ wAll := wI3 160 (by decide +kernel) (by decide +kernel)
theorem dX10_terms_16 : decode cX10_terms 16 = .ok (.putfield 382, 3) := by decide +kernel
theorem flw_X10_382 : flw RX10 382 7 3 (.array (.int)) := ⟨RX6, TX6, 4, tyX6, rfl, inA_X6, by decide, w_566, tyX6_ok, nmX6, by decide +kernel, Or.inl rfl⟩
theorem dX10_terms_19 : decode cX10_terms 19 = .ok (.aload_n 1, 1) := by decide +kernel
theorem dX10_terms_20 : decode cX10_terms 20 = .ok (.getfield 382, 3) := by decide +kernel
theorem dX10_terms_23 : decode cX10_terms 23 = .ok (.areturn, 1) := by decide +kernel
theorem dX10_term_0 : decode cX10_term 0 = .ok (.aload_n 0, 1) := by decide +kernel
theorem dX10_term_1 : decode cX10_term 1 = .ok (.aload_n 1, 1) := by decide +kernel
theorem dX10_term_2 : decode cX10_term 2 = .ok (.invokevirtual 320, 3) := by decide +kernel
theorem w_728 : Cond.methodLink "QuarterWalks" 320 yX10_terms ∈ wAll := wI3 153 (by decide +kernel) (by decide +kernel)
theorem w_18 : Cond.selects yX10_terms.cls yX10_terms yX10_terms ∈ wAll := wIn 18 (by decide +kernel) (by decide +kernel)
theorem mk_X10_terms : mk yX10_terms 1 := ⟨by decide +kernel, w_96⟩
theorem w_730 : Cond.instanceMethod yX10_terms ∈ wAll := wI3 155 (by decide +kernel) (by decide +kernel)
theorem w_731 : Cond.code yX10_terms cX10_terms 2 (some (.array .int)) ∈ wAll := wI3 156 (by decide +kernel) (by decide +kernel)
theorem dX10_term_5 : decode cX10_term 5 = .ok (.iload_n 2, 1) := by decide +kernel
theorem dX10_term_6 : decode cX10_term 6 = .ok (.bipush 61, 2) := by decide +kernel
theorem dX10_term_8 : decode cX10_term 8 = .ok (.imul, 1) := by decide +kernel
theorem dX10_term_9 : decode cX10_term 9 = .ok (.iload_n 3, 1) := by decide +kernel
theorem dX10_term_10 : decode cX10_term 10 = .ok (.iadd, 1) := by decide +kernel
theorem dX10_term_11 : decode cX10_term 11 = .ok (.iaload, 1) := by decide +kernel
theorem dX10_term_12 : decode cX10_term 12 = .ok (.ireturn, 1) := by decide +kernel
theorem dX10_series_0 : decode cX10_series 0 = .ok (.aload_n 0, 1) := by decide +kernel
theorem dX10_series_1 : decode cX10_series 1 = .ok (.getfield 19, 3) := by decide +kernel
theorem dX10_series_4 : decode cX10_series 4 = .ok (.iload_n 1, 1) := by decide +kernel
theorem dX10_series_5 : decode cX10_series 5 = .ok (.invokevirtual 110, 3) := by decide +kernel
theorem dX10_series_8 : decode cX10_series 8 = .ok (.astore 4, 2) := by decide +kernel
theorem dX10_series_10 : decode cX10_series 10 = .ok (.aload 4, 2) := by decide +kernel
theorem dX10_series_12 : decode cX10_series 12 = .ok (.ifnull 17, 3) := by decide +kernel
theorem dX10_series_29 : decode cX10_series 29 = .ok (.iconst (-1), 1) := by decide +kernel
theorem dX10_series_15 : decode cX10_series 15 = .ok (.iload_n 2, 1) := by decide +kernel
theorem dX10_series_16 : decode cX10_series 16 = .ok (.invokestatic 195, 3) := by decide +kernel
theorem w_721 : Cond.methodLink "QuarterWalks" 195 yX10_isKind ∈ wAll := wI3 146 (by decide +kernel) (by decide +kernel)
theorem mk_X10_isKind : mk yX10_isKind 1 := ⟨by decide +kernel, w_96⟩
theorem w_722 : Cond.static yX10_isKind ∈ wAll := wI3 147 (by decide +kernel) (by decide +kernel)
theorem w_723 : Cond.code yX10_isKind cX10_isKind 1 (some .boolean) ∈ wAll := wI3 148 (by decide +kernel) (by decide +kernel)
theorem dX10_series_19 : decode cX10_series 19 = .ok (.ifCond .eq 10, 3) := by decide +kernel
theorem dX10_series_22 : decode cX10_series 22 = .ok (.iload_n 3, 1) := by decide +kernel
theorem dX10_series_23 : decode cX10_series 23 = .ok (.invokestatic 179, 3) := by decide +kernel
theorem dX10_series_26 : decode cX10_series 26 = .ok (.ifCond .ne 5, 3) := by decide +kernel
theorem dX10_series_31 : decode cX10_series 31 = .ok (.aload_n 0, 1) := by decide +kernel
theorem dX10_series_32 : decode cX10_series 32 = .ok (.aload 4, 2) := by decide +kernel
theorem dX10_series_34 : decode cX10_series 34 = .ok (.iload_n 2, 1) := by decide +kernel
theorem dX10_series_35 : decode cX10_series 35 = .ok (.iload_n 3, 1) := by decide +kernel
theorem dX10_series_36 : decode cX10_series 36 = .ok (.invokevirtual 198, 3) := by decide +kernel
theorem w_724 : Cond.methodLink "QuarterWalks" 198 yX10_term ∈ wAll := wI3 149 (by decide +kernel) (by decide +kernel)
theorem w_17 : Cond.selects yX10_term.cls yX10_term yX10_term ∈ wAll := wIn 17 (by decide +kernel) (by decide +kernel)
theorem mk_X10_term : mk yX10_term 3 := ⟨by decide +kernel, w_96⟩
theorem w_726 : Cond.instanceMethod yX10_term ∈ wAll := wI3 151 (by decide +kernel) (by decide +kernel)
theorem w_727 : Cond.code yX10_term cX10_term 4 (some .int) ∈ wAll := wI3 152 (by decide +kernel) (by decide +kernel)
theorem dX10_series_30 : decode cX10_series 30 = .ok (.ireturn, 1) := by decide +kernel
theorem dX10_series_39 : decode cX10_series 39 = .ok (.ireturn, 1) := by decide +kernel
theorem dX10_ratio_0 : decode cX10_ratio 0 = .ok (.aload_n 0, 1) := by decide +kernel
theorem dX10_ratio_1 : decode cX10_ratio 1 = .ok (.getfield 19, 3) := by decide +kernel
theorem dX10_ratio_4 : decode cX10_ratio 4 = .ok (.iload_n 1, 1) := by decide +kernel
theorem dX10_ratio_5 : decode cX10_ratio 5 = .ok (.invokevirtual 110, 3) := by decide +kernel
theorem dX10_ratio_8 : decode cX10_ratio 8 = .ok (.astore 4, 2) := by decide +kernel
theorem dX10_ratio_10 : decode cX10_ratio 10 = .ok (.aload 4, 2) := by decide +kernel
theorem dX10_ratio_12 : decode cX10_ratio 12 = .ok (.ifnull 20, 3) := by decide +kernel
theorem dX10_ratio_32 : decode cX10_ratio 32 = .ok (.iconst (-1), 1) := by decide +kernel
theorem dX10_ratio_15 : decode cX10_ratio 15 = .ok (.iload_n 2, 1) := by decide +kernel
theorem dX10_ratio_16 : decode cX10_ratio 16 = .ok (.invokestatic 195, 3) := by decide +kernel
theorem dX10_ratio_19 : decode cX10_ratio 19 = .ok (.ifCond .eq 13, 3) := by decide +kernel
theorem dX10_ratio_22 : decode cX10_ratio 22 = .ok (.iload_n 3, 1) := by decide +kernel
theorem dX10_ratio_23 : decode cX10_ratio 23 = .ok (.iconst 1, 1) := by decide +kernel
theorem dX10_ratio_24 : decode cX10_ratio 24 = .ok (.bipush 60, 2) := by decide +kernel
theorem dX10_ratio_26 : decode cX10_ratio 26 = .ok (.invokestatic 87, 3) := by decide +kernel
theorem dX10_ratio_29 : decode cX10_ratio 29 = .ok (.ifCond .ne 5, 3) := by decide +kernel
theorem dX10_ratio_34 : decode cX10_ratio 34 = .ok (.aload_n 0, 1) := by decide +kernel
theorem dX10_ratio_35 : decode cX10_ratio 35 = .ok (.aload 4, 2) := by decide +kernel
theorem dX10_ratio_37 : decode cX10_ratio 37 = .ok (.iload_n 2, 1) := by decide +kernel
theorem dX10_ratio_38 : decode cX10_ratio 38 = .ok (.iload_n 3, 1) := by decide +kernel
theorem dX10_ratio_39 : decode cX10_ratio 39 = .ok (.iconst 1, 1) := by decide +kernel
theorem dX10_ratio_40 : decode cX10_ratio 40 = .ok (.isub, 1) := by decide +kernel
theorem dX10_ratio_41 : decode cX10_ratio 41 = .ok (.invokevirtual 198, 3) := by decide +kernel
theorem dX10_ratio_44 : decode cX10_ratio 44 = .ok (.istore 5, 2) := by decide +kernel
theorem dX10_ratio_46 : decode cX10_ratio 46 = .ok (.iload 5, 2) := by decide +kernel
theorem dX10_ratio_48 : decode cX10_ratio 48 = .ok (.ifCond .ne 7, 3) := by decide +kernel
theorem dX10_ratio_55 : decode cX10_ratio 55 = .ok (.aload_n 0, 1) := by decide +kernel
theorem dX10_ratio_56 : decode cX10_ratio 56 = .ok (.aload 4, 2) := by decide +kernel
theorem dX10_ratio_58 : decode cX10_ratio 58 = .ok (.iload_n 2, 1) := by decide +kernel
theorem dX10_ratio_59 : decode cX10_ratio 59 = .ok (.iload_n 3, 1) := by decide +kernel
theorem dX10_ratio_60 : decode cX10_ratio 60 = .ok (.invokevirtual 198, 3) := by decide +kernel
theorem dX10_ratio_63 : decode cX10_ratio 63 = .ok (.i2l, 1) := by decide +kernel
theorem dX10_ratio_64 : decode cX10_ratio 64 = .ok (.iload 5, 2) := by decide +kernel
theorem dX10_ratio_66 : decode cX10_ratio 66 = .ok (.invokestatic 242, 3) := by decide +kernel
theorem w_821 : Cond.methodLink "QuarterWalks" 242 yX10_inverse ∈ wAll := wI4 6 (by decide +kernel) (by decide +kernel)
theorem dX10_ratio_69 : decode cX10_ratio 69 = .ok (.i2l, 1) := by decide +kernel
theorem dX10_ratio_70 : decode cX10_ratio 70 = .ok (.invokestatic 245, 3) := by decide +kernel
theorem w_822 : Cond.methodLink "QuarterWalks" 245 yX10_times ∈ wAll := wI4 7 (by decide +kernel) (by decide +kernel)
theorem dX10_ratio_51 : decode cX10_ratio 51 = .ok (.iconst (-1), 1) := by decide +kernel
theorem dX10_ratio_52 : decode cX10_ratio 52 = .ok (.goto 21, 3) := by decide +kernel
theorem dX10_ratio_33 : decode cX10_ratio 33 = .ok (.ireturn, 1) := by decide +kernel
theorem dX10_ratio_73 : decode cX10_ratio 73 = .ok (.ireturn, 1) := by decide +kernel
theorem dX10_isHalfEnough_0 : decode cX10_isHalfEnough 0 = .ok (.aload_n 0, 1) := by decide +kernel
theorem dX10_isHalfEnough_1 : decode cX10_isHalfEnough 1 = .ok (.aload_n 1, 1) := by decide +kernel
theorem dX10_isHalfEnough_2 : decode cX10_isHalfEnough 2 = .ok (.invokevirtual 320, 3) := by decide +kernel
theorem dX10_isHalfEnough_5 : decode cX10_isHalfEnough 5 = .ok (.astore_n 3, 1) := by decide +kernel
theorem dX10_isHalfEnough_6 : decode cX10_isHalfEnough 6 = .ok (.aload_n 0, 1) := by decide +kernel
theorem dX10_isHalfEnough_7 : decode cX10_isHalfEnough 7 = .ok (.getfield 26, 3) := by decide +kernel
theorem dX10_isHalfEnough_10 : decode cX10_isHalfEnough 10 = .ok (.aload_n 1, 1) := by decide +kernel
theorem dX10_isHalfEnough_11 : decode cX10_isHalfEnough 11 = .ok (.iconst 0, 1) := by decide +kernel
theorem dX10_isHalfEnough_12 : decode cX10_isHalfEnough 12 = .ok (.iload_n 2, 1) := by decide +kernel
theorem dX10_isHalfEnough_13 : decode cX10_isHalfEnough 13 = .ok (.invokevirtual 207, 3) := by decide +kernel
theorem dX10_isHalfEnough_16 : decode cX10_isHalfEnough 16 = .ok (.iconst 0, 1) := by decide +kernel
theorem dX10_isHalfEnough_17 : decode cX10_isHalfEnough 17 = .ok (.istore 4, 2) := by decide +kernel
theorem dX10_isHalfEnough_19 : decode cX10_isHalfEnough 19 = .ok (.iload 4, 2) := by decide +kernel
theorem dX10_isHalfEnough_21 : decode cX10_isHalfEnough 21 = .ok (.bipush 12, 2) := by decide +kernel
theorem dX10_isHalfEnough_23 : decode cX10_isHalfEnough 23 = .ok (.if_icmp .gt 33, 3) := by decide +kernel
theorem dX10_isHalfEnough_26 : decode cX10_isHalfEnough 26 = .ok (.aload_n 0, 1) := by decide +kernel
theorem dX10_isHalfEnough_27 : decode cX10_isHalfEnough 27 = .ok (.getfield 26, 3) := by decide +kernel
theorem dX10_isHalfEnough_30 : decode cX10_isHalfEnough 30 = .ok (.invokevirtual 387, 3) := by decide +kernel
theorem w_1014 : Cond.methodLink "QuarterWalks" 387 yX2_total ∈ wAll := wI4 199 (by decide +kernel) (by decide +kernel)
theorem dX10_isHalfEnough_33 : decode cX10_isHalfEnough 33 = .ok (.aload_n 3, 1) := by decide +kernel
theorem dX10_isHalfEnough_34 : decode cX10_isHalfEnough 34 = .ok (.iload 4, 2) := by decide +kernel
theorem dX10_isHalfEnough_36 : decode cX10_isHalfEnough 36 = .ok (.iaload, 1) := by decide +kernel
theorem dX10_isHalfEnough_37 : decode cX10_isHalfEnough 37 = .ok (.if_icmp .eq 5, 3) := by decide +kernel
theorem dX10_isHalfEnough_42 : decode cX10_isHalfEnough 42 = .ok (.aload_n 0, 1) := by decide +kernel
theorem dX10_isHalfEnough_43 : decode cX10_isHalfEnough 43 = .ok (.getfield 26, 3) := by decide +kernel
theorem dX10_isHalfEnough_46 : decode cX10_isHalfEnough 46 = .ok (.iconst 1, 1) := by decide +kernel
theorem dX10_isHalfEnough_47 : decode cX10_isHalfEnough 47 = .ok (.invokevirtual 215, 3) := by decide +kernel
theorem dX10_isHalfEnough_50 : decode cX10_isHalfEnough 50 = .ok (.iinc 4 1, 3) := by decide +kernel
theorem dX10_isHalfEnough_53 : decode cX10_isHalfEnough 53 = .ok (.goto (-34), 3) := by decide +kernel
theorem dX10_isHalfEnough_40 : decode cX10_isHalfEnough 40 = .ok (.iconst 0, 1) := by decide +kernel
theorem dX10_isHalfEnough_56 : decode cX10_isHalfEnough 56 = .ok (.iconst 1, 1) := by decide +kernel
theorem dX10_isHalfEnough_57 : decode cX10_isHalfEnough 57 = .ok (.ireturn, 1) := by decide +kernel
theorem dX10_isHalfEnough_41 : decode cX10_isHalfEnough 41 = .ok (.ireturn, 1) := by decide +kernel
theorem dX10_enough_0 : decode cX10_enough 0 = .ok (.aload_n 0, 1) := by decide +kernel
theorem dX10_enough_1 : decode cX10_enough 1 = .ok (.getfield 19, 3) := by decide +kernel
theorem dX10_enough_4 : decode cX10_enough 4 = .ok (.iload_n 1, 1) := by decide +kernel
theorem dX10_enough_5 : decode cX10_enough 5 = .ok (.invokevirtual 110, 3) := by decide +kernel
theorem dX10_enough_8 : decode cX10_enough 8 = .ok (.astore_n 2, 1) := by decide +kernel
theorem dX10_enough_9 : decode cX10_enough 9 = .ok (.aload_n 2, 1) := by decide +kernel
theorem dX10_enough_10 : decode cX10_enough 10 = .ok (.ifnonnull 5, 3) := by decide +kernel
theorem dX10_enough_13 : decode cX10_enough 13 = .ok (.iconst (-1), 1) := by decide +kernel
theorem dX10_enough_15 : decode cX10_enough 15 = .ok (.aload_n 0, 1) := by decide +kernel
theorem dX10_enough_16 : decode cX10_enough 16 = .ok (.aload_n 2, 1) := by decide +kernel
theorem dX10_enough_17 : decode cX10_enough 17 = .ok (.iconst 1, 1) := by decide +kernel
theorem dX10_enough_18 : decode cX10_enough 18 = .ok (.invokevirtual 316, 3) := by decide +kernel
theorem w_1010 : Cond.methodLink "QuarterWalks" 316 yX10_isHalfEnough ∈ wAll := wI4 195 (by decide +kernel) (by decide +kernel)
theorem w_26 : Cond.selects yX10_isHalfEnough.cls yX10_isHalfEnough yX10_isHalfEnough ∈ wAll := wIn 26 (by decide +kernel) (by decide +kernel)
theorem mk_X10_isHalfEnough : mk yX10_isHalfEnough 2 := ⟨by decide +kernel, w_96⟩
theorem w_1012 : Cond.instanceMethod yX10_isHalfEnough ∈ wAll := wI4 197 (by decide +kernel) (by decide +kernel)
theorem w_1013 : Cond.code yX10_isHalfEnough cX10_isHalfEnough 5 (some .boolean) ∈ wAll := wI4 198 (by decide +kernel) (by decide +kernel)
theorem dX10_enough_21 : decode cX10_enough 21 = .ok (.ifCond .eq 7, 3) := by decide +kernel
theorem dX10_enough_28 : decode cX10_enough 28 = .ok (.iconst 0, 1) := by decide +kernel
theorem dX10_enough_29 : decode cX10_enough 29 = .ok (.aload_n 0, 1) := by decide +kernel
theorem dX10_enough_30 : decode cX10_enough 30 = .ok (.aload_n 2, 1) := by decide +kernel
theorem dX10_enough_31 : decode cX10_enough 31 = .ok (.iconst 3, 1) := by decide +kernel
theorem dX10_enough_32 : decode cX10_enough 32 = .ok (.invokevirtual 316, 3) := by decide +kernel
theorem dX10_enough_35 : decode cX10_enough 35 = .ok (.ifCond .eq 7, 3) := by decide +kernel
theorem dX10_enough_42 : decode cX10_enough 42 = .ok (.iconst 0, 1) := by decide +kernel
theorem dX10_enough_43 : decode cX10_enough 43 = .ok (.iadd, 1) := by decide +kernel
theorem dX10_enough_38 : decode cX10_enough 38 = .ok (.iconst 2, 1) := by decide +kernel
theorem dX10_enough_39 : decode cX10_enough 39 = .ok (.goto 4, 3) := by decide +kernel
theorem dX10_enough_24 : decode cX10_enough 24 = .ok (.iconst 1, 1) := by decide +kernel
theorem dX10_enough_25 : decode cX10_enough 25 = .ok (.goto 4, 3) := by decide +kernel
theorem dX10_enough_14 : decode cX10_enough 14 = .ok (.ireturn, 1) := by decide +kernel
theorem dX10_enough_44 : decode cX10_enough 44 = .ok (.ireturn, 1) := by decide +kernel
theorem dX10_areAlike_0 : decode cX10_areAlike 0 = .ok (.iconst 0, 1) := by decide +kernel
theorem dX10_areAlike_1 : decode cX10_areAlike 1 = .ok (.istore_n 2, 1) := by decide +kernel
theorem dX10_areAlike_2 : decode cX10_areAlike 2 = .ok (.iload_n 2, 1) := by decide +kernel
theorem dX10_areAlike_3 : decode cX10_areAlike 3 = .ok (.bipush 20, 2) := by decide +kernel
theorem dX10_areAlike_5 : decode cX10_areAlike 5 = .ok (.if_icmp .gt 20, 3) := by decide +kernel
theorem dX10_areAlike_8 : decode cX10_areAlike 8 = .ok (.aload_n 0, 1) := by decide +kernel
theorem dX10_areAlike_9 : decode cX10_areAlike 9 = .ok (.iload_n 2, 1) := by decide +kernel
theorem dX10_areAlike_10 : decode cX10_areAlike 10 = .ok (.iaload, 1) := by decide +kernel
theorem dX10_areAlike_11 : decode cX10_areAlike 11 = .ok (.aload_n 1, 1) := by decide +kernel
theorem dX10_areAlike_12 : decode cX10_areAlike 12 = .ok (.iload_n 2, 1) := by decide +kernel
theorem dX10_areAlike_13 : decode cX10_areAlike 13 = .ok (.iaload, 1) := by decide +kernel
theorem dX10_areAlike_14 : decode cX10_areAlike 14 = .ok (.if_icmp .eq 5, 3) := by decide +kernel
theorem dX10_areAlike_19 : decode cX10_areAlike 19 = .ok (.iinc 2 1, 3) := by decide +kernel
theorem dX10_areAlike_22 : decode cX10_areAlike 22 = .ok (.goto (-20), 3) := by decide +kernel
theorem dX10_areAlike_17 : decode cX10_areAlike 17 = .ok (.iconst 0, 1) := by decide +kernel
theorem dX10_areAlike_25 : decode cX10_areAlike 25 = .ok (.iconst 1, 1) := by decide +kernel
theorem dX10_areAlike_26 : decode cX10_areAlike 26 = .ok (.ireturn, 1) := by decide +kernel
theorem dX10_areAlike_18 : decode cX10_areAlike 18 = .ok (.ireturn, 1) := by decide +kernel
theorem dX10_hankel_0 : decode cX10_hankel 0 = .ok (.aload_n 0, 1) := by decide +kernel
theorem dX10_hankel_1 : decode cX10_hankel 1 = .ok (.getfield 19, 3) := by decide +kernel
theorem dX10_hankel_4 : decode cX10_hankel 4 = .ok (.iload_n 1, 1) := by decide +kernel
theorem dX10_hankel_5 : decode cX10_hankel 5 = .ok (.invokevirtual 110, 3) := by decide +kernel
theorem dX10_hankel_8 : decode cX10_hankel 8 = .ok (.astore 4, 2) := by decide +kernel
theorem dX10_hankel_10 : decode cX10_hankel 10 = .ok (.aload 4, 2) := by decide +kernel
theorem dX10_hankel_12 : decode cX10_hankel 12 = .ok (.ifnull 20, 3) := by decide +kernel
theorem dX10_hankel_32 : decode cX10_hankel 32 = .ok (.iconst (-1), 1) := by decide +kernel
theorem dX10_hankel_15 : decode cX10_hankel 15 = .ok (.iload_n 2, 1) := by decide +kernel
theorem dX10_hankel_16 : decode cX10_hankel 16 = .ok (.invokestatic 195, 3) := by decide +kernel
theorem dX10_hankel_19 : decode cX10_hankel 19 = .ok (.ifCond .eq 13, 3) := by decide +kernel
theorem dX10_hankel_22 : decode cX10_hankel 22 = .ok (.iload_n 3, 1) := by decide +kernel
theorem dX10_hankel_23 : decode cX10_hankel 23 = .ok (.iconst 1, 1) := by decide +kernel
theorem dX10_hankel_24 : decode cX10_hankel 24 = .ok (.bipush 8, 2) := by decide +kernel
theorem dX10_hankel_26 : decode cX10_hankel 26 = .ok (.invokestatic 87, 3) := by decide +kernel
theorem dX10_hankel_29 : decode cX10_hankel 29 = .ok (.ifCond .ne 5, 3) := by decide +kernel
theorem dX10_hankel_34 : decode cX10_hankel 34 = .ok (.aload_n 0, 1) := by decide +kernel
theorem dX10_hankel_35 : decode cX10_hankel 35 = .ok (.getfield 47, 3) := by decide +kernel
theorem dX10_hankel_38 : decode cX10_hankel 38 = .ok (.iload_n 3, 1) := by decide +kernel
theorem dX10_hankel_39 : decode cX10_hankel 39 = .ok (.iload_n 3, 1) := by decide +kernel
theorem dX10_hankel_40 : decode cX10_hankel 40 = .ok (.invokevirtual 232, 3) := by decide +kernel
theorem dX10_hankel_43 : decode cX10_hankel 43 = .ok (.iconst 0, 1) := by decide +kernel
theorem dX10_hankel_44 : decode cX10_hankel 44 = .ok (.istore 5, 2) := by decide +kernel
theorem dX10_hankel_46 : decode cX10_hankel 46 = .ok (.iload 5, 2) := by decide +kernel
theorem dX10_hankel_48 : decode cX10_hankel 48 = .ok (.iload_n 3, 1) := by decide +kernel
theorem dX10_hankel_49 : decode cX10_hankel 49 = .ok (.if_icmp .ge 48, 3) := by decide +kernel
theorem dX10_hankel_52 : decode cX10_hankel 52 = .ok (.iconst 0, 1) := by decide +kernel
theorem dX10_hankel_53 : decode cX10_hankel 53 = .ok (.istore 6, 2) := by decide +kernel
theorem dX10_hankel_55 : decode cX10_hankel 55 = .ok (.iload 6, 2) := by decide +kernel
theorem dX10_hankel_57 : decode cX10_hankel 57 = .ok (.iload_n 3, 1) := by decide +kernel
theorem dX10_hankel_58 : decode cX10_hankel 58 = .ok (.if_icmp .ge 33, 3) := by decide +kernel
theorem dX10_hankel_61 : decode cX10_hankel 61 = .ok (.aload_n 0, 1) := by decide +kernel
theorem dX10_hankel_62 : decode cX10_hankel 62 = .ok (.getfield 47, 3) := by decide +kernel
theorem dX10_hankel_65 : decode cX10_hankel 65 = .ok (.iload 5, 2) := by decide +kernel
theorem dX10_hankel_67 : decode cX10_hankel 67 = .ok (.iload 6, 2) := by decide +kernel
theorem dX10_hankel_69 : decode cX10_hankel 69 = .ok (.aload_n 0, 1) := by decide +kernel
theorem dX10_hankel_70 : decode cX10_hankel 70 = .ok (.aload 4, 2) := by decide +kernel
theorem dX10_hankel_72 : decode cX10_hankel 72 = .ok (.iload_n 2, 1) := by decide +kernel
theorem dX10_hankel_73 : decode cX10_hankel 73 = .ok (.iload 5, 2) := by decide +kernel
theorem dX10_hankel_75 : decode cX10_hankel 75 = .ok (.iload 6, 2) := by decide +kernel
theorem dX10_hankel_77 : decode cX10_hankel 77 = .ok (.iadd, 1) := by decide +kernel
theorem dX10_hankel_78 : decode cX10_hankel 78 = .ok (.invokevirtual 198, 3) := by decide +kernel
theorem dX10_hankel_81 : decode cX10_hankel 81 = .ok (.i2l, 1) := by decide +kernel
theorem dX10_hankel_82 : decode cX10_hankel 82 = .ok (.invokevirtual 235, 3) := by decide +kernel
theorem dX10_hankel_85 : decode cX10_hankel 85 = .ok (.iinc 6 1, 3) := by decide +kernel
theorem dX10_hankel_88 : decode cX10_hankel 88 = .ok (.goto (-33), 3) := by decide +kernel
theorem dX10_hankel_91 : decode cX10_hankel 91 = .ok (.iinc 5 1, 3) := by decide +kernel
theorem dX10_hankel_94 : decode cX10_hankel 94 = .ok (.goto (-48), 3) := by decide +kernel
theorem dX10_hankel_97 : decode cX10_hankel 97 = .ok (.aload_n 0, 1) := by decide +kernel
theorem dX10_hankel_98 : decode cX10_hankel 98 = .ok (.getfield 47, 3) := by decide +kernel
theorem dX10_hankel_101 : decode cX10_hankel 101 = .ok (.invokevirtual 249, 3) := by decide +kernel
theorem w_827 : Cond.methodLink "QuarterWalks" 249 yX4_determinant ∈ wAll := wI4 12 (by decide +kernel) (by decide +kernel)
theorem w_829 : Cond.selects yX4_determinant.cls yX4_determinant yX4_determinant ∈ wAll := wI4 14 (by decide +kernel) (by decide +kernel)
theorem mk_X4_determinant : mk yX4_determinant 0 := ⟨by decide +kernel, w_104⟩
theorem w_828 : Cond.instanceMethod yX4_determinant ∈ wAll := wI4 13 (by decide +kernel) (by decide +kernel)
theorem w_830 : Cond.code yX4_determinant cX4_determinant 2 (some .int) ∈ wAll := wI4 15 (by decide +kernel) (by decide +kernel)
theorem dX10_hankel_33 : decode cX10_hankel 33 = .ok (.ireturn, 1) := by decide +kernel
theorem dX10_hankel_104 : decode cX10_hankel 104 = .ok (.ireturn, 1) := by decide +kernel
theorem dX10_arches_0 : decode cX10_arches 0 = .ok (.aload_n 0, 1) := by decide +kernel
theorem dX10_arches_1 : decode cX10_arches 1 = .ok (.getfield 19, 3) := by decide +kernel
theorem dX10_arches_4 : decode cX10_arches 4 = .ok (.iload_n 1, 1) := by decide +kernel
theorem dX10_arches_5 : decode cX10_arches 5 = .ok (.invokevirtual 110, 3) := by decide +kernel
theorem dX10_arches_8 : decode cX10_arches 8 = .ok (.astore_n 3, 1) := by decide +kernel
theorem dX10_arches_9 : decode cX10_arches 9 = .ok (.aload_n 3, 1) := by decide +kernel
theorem dX10_arches_10 : decode cX10_arches 10 = .ok (.ifnull 13, 3) := by decide +kernel
theorem dX10_arches_23 : decode cX10_arches 23 = .ok (.iconst (-1), 1) := by decide +kernel
theorem dX10_arches_13 : decode cX10_arches 13 = .ok (.iload_n 2, 1) := by decide +kernel
theorem dX10_arches_14 : decode cX10_arches 14 = .ok (.iconst 1, 1) := by decide +kernel
theorem dX10_arches_15 : decode cX10_arches 15 = .ok (.bipush 60, 2) := by decide +kernel
theorem dX10_arches_17 : decode cX10_arches 17 = .ok (.invokestatic 87, 3) := by decide +kernel
theorem dX10_arches_20 : decode cX10_arches 20 = .ok (.ifCond .ne 5, 3) := by decide +kernel
theorem dX10_arches_25 : decode cX10_arches 25 = .ok (.iconst 1, 1) := by decide +kernel
theorem dX10_arches_26 : decode cX10_arches 26 = .ok (.istore 4, 2) := by decide +kernel
theorem dX10_arches_28 : decode cX10_arches 28 = .ok (.iload 4, 2) := by decide +kernel
theorem dX10_arches_30 : decode cX10_arches 30 = .ok (.iload_n 2, 1) := by decide +kernel
theorem dX10_arches_31 : decode cX10_arches 31 = .ok (.if_icmp .gt 79, 3) := by decide +kernel
theorem dX10_arches_34 : decode cX10_arches 34 = .ok (.lconst 0, 1) := by decide +kernel
theorem dX10_arches_35 : decode cX10_arches 35 = .ok (.lstore 5, 2) := by decide +kernel
theorem dX10_arches_37 : decode cX10_arches 37 = .ok (.iconst 1, 1) := by decide +kernel
theorem dX10_arches_38 : decode cX10_arches 38 = .ok (.istore 7, 2) := by decide +kernel
theorem dX10_arches_40 : decode cX10_arches 40 = .ok (.iload 7, 2) := by decide +kernel
theorem dX10_arches_42 : decode cX10_arches 42 = .ok (.iload 4, 2) := by decide +kernel
theorem dX10_arches_44 : decode cX10_arches 44 = .ok (.if_icmp .ge 37, 3) := by decide +kernel
theorem dX10_arches_81 : decode cX10_arches 81 = .ok (.aload_n 0, 1) := by decide +kernel
theorem dX10_arches_82 : decode cX10_arches 82 = .ok (.getfield 64, 3) := by decide +kernel
theorem dX10_arches_85 : decode cX10_arches 85 = .ok (.iload 4, 2) := by decide +kernel
theorem dX10_arches_87 : decode cX10_arches 87 = .ok (.aload_n 0, 1) := by decide +kernel
theorem dX10_arches_88 : decode cX10_arches 88 = .ok (.aload_n 3, 1) := by decide +kernel
theorem dX10_arches_89 : decode cX10_arches 89 = .ok (.iconst 1, 1) := by decide +kernel
theorem dX10_arches_90 : decode cX10_arches 90 = .ok (.iload 4, 2) := by decide +kernel
theorem dX10_arches_92 : decode cX10_arches 92 = .ok (.invokevirtual 198, 3) := by decide +kernel
theorem dX10_arches_95 : decode cX10_arches 95 = .ok (.i2l, 1) := by decide +kernel
theorem dX10_arches_96 : decode cX10_arches 96 = .ok (.lload 5, 2) := by decide +kernel
theorem dX10_arches_98 : decode cX10_arches 98 = .ok (.lsub, 1) := by decide +kernel
theorem dX10_arches_99 : decode cX10_arches 99 = .ok (.invokestatic 228, 3) := by decide +kernel
theorem dX10_arches_102 : decode cX10_arches 102 = .ok (.i2l, 1) := by decide +kernel
theorem dX10_arches_103 : decode cX10_arches 103 = .ok (.lastore, 1) := by decide +kernel
theorem dX10_arches_104 : decode cX10_arches 104 = .ok (.iinc 4 1, 3) := by decide +kernel
theorem dX10_arches_107 : decode cX10_arches 107 = .ok (.goto (-79), 3) := by decide +kernel
theorem dX10_arches_110 : decode cX10_arches 110 = .ok (.aload_n 0, 1) := by decide +kernel
theorem dX10_arches_111 : decode cX10_arches 111 = .ok (.getfield 64, 3) := by decide +kernel
theorem dX10_arches_114 : decode cX10_arches 114 = .ok (.iload_n 2, 1) := by decide +kernel
theorem dX10_arches_115 : decode cX10_arches 115 = .ok (.laload, 1) := by decide +kernel
theorem dX10_arches_116 : decode cX10_arches 116 = .ok (.l2i, 1) := by decide +kernel
theorem dX10_arches_47 : decode cX10_arches 47 = .ok (.lload 5, 2) := by decide +kernel
theorem dX10_arches_49 : decode cX10_arches 49 = .ok (.aload_n 0, 1) := by decide +kernel
theorem dX10_arches_50 : decode cX10_arches 50 = .ok (.getfield 64, 3) := by decide +kernel
theorem dX10_arches_53 : decode cX10_arches 53 = .ok (.iload 7, 2) := by decide +kernel
theorem dX10_arches_55 : decode cX10_arches 55 = .ok (.laload, 1) := by decide +kernel
theorem dX10_arches_56 : decode cX10_arches 56 = .ok (.aload_n 0, 1) := by decide +kernel
theorem dX10_arches_57 : decode cX10_arches 57 = .ok (.aload_n 3, 1) := by decide +kernel
theorem dX10_arches_58 : decode cX10_arches 58 = .ok (.iconst 1, 1) := by decide +kernel
theorem dX10_arches_59 : decode cX10_arches 59 = .ok (.iload 4, 2) := by decide +kernel
theorem dX10_arches_61 : decode cX10_arches 61 = .ok (.iload 7, 2) := by decide +kernel
theorem dX10_arches_63 : decode cX10_arches 63 = .ok (.isub, 1) := by decide +kernel
theorem dX10_arches_64 : decode cX10_arches 64 = .ok (.invokevirtual 198, 3) := by decide +kernel
theorem dX10_arches_67 : decode cX10_arches 67 = .ok (.i2l, 1) := by decide +kernel
theorem dX10_arches_68 : decode cX10_arches 68 = .ok (.invokestatic 245, 3) := by decide +kernel
theorem dX10_arches_71 : decode cX10_arches 71 = .ok (.i2l, 1) := by decide +kernel
theorem dX10_arches_72 : decode cX10_arches 72 = .ok (.ladd, 1) := by decide +kernel
theorem dX10_arches_73 : decode cX10_arches 73 = .ok (.lstore 5, 2) := by decide +kernel
theorem dX10_arches_75 : decode cX10_arches 75 = .ok (.iinc 7 1, 3) := by decide +kernel
theorem dX10_arches_78 : decode cX10_arches 78 = .ok (.goto (-38), 3) := by decide +kernel
theorem dX10_arches_24 : decode cX10_arches 24 = .ok (.ireturn, 1) := by decide +kernel
theorem dX10_arches_117 : decode cX10_arches 117 = .ok (.ireturn, 1) := by decide +kernel
theorem dX10_readies_0 : decode cX10_readies 0 = .ok (.aload_n 0, 1) := by decide +kernel
theorem dX10_readies_1 : decode cX10_readies 1 = .ok (.getfield 19, 3) := by decide +kernel
theorem dX10_readies_4 : decode cX10_readies 4 = .ok (.iload_n 1, 1) := by decide +kernel
theorem dX10_readies_5 : decode cX10_readies 5 = .ok (.invokevirtual 110, 3) := by decide +kernel
theorem dX10_readies_8 : decode cX10_readies 8 = .ok (.astore 6, 2) := by decide +kernel
theorem dX10_readies_10 : decode cX10_readies 10 = .ok (.aload 6, 2) := by decide +kernel
theorem dX10_readies_12 : decode cX10_readies 12 = .ok (.ifnull 21, 3) := by decide +kernel
theorem dX10_readies_33 : decode cX10_readies 33 = .ok (.iconst 0, 1) := by decide +kernel
theorem dX10_readies_15 : decode cX10_readies 15 = .ok (.iload_n 2, 1) := by decide +kernel
theorem dX10_readies_16 : decode cX10_readies 16 = .ok (.invokestatic 195, 3) := by decide +kernel
theorem dX10_readies_19 : decode cX10_readies 19 = .ok (.ifCond .eq 14, 3) := by decide +kernel
theorem dX10_readies_22 : decode cX10_readies 22 = .ok (.iload_n 3, 1) := by decide +kernel
theorem dX10_readies_23 : decode cX10_readies 23 = .ok (.iload 4, 2) := by decide +kernel
theorem dX10_readies_25 : decode cX10_readies 25 = .ok (.iload 5, 2) := by decide +kernel
theorem dX10_readies_27 : decode cX10_readies 27 = .ok (.invokestatic 390, 3) := by decide +kernel
theorem w_1030 : Cond.methodLink "QuarterWalks" 390 yX3_isShape ∈ wAll := wI4 215 (by decide +kernel) (by decide +kernel)
theorem dX10_readies_30 : decode cX10_readies 30 = .ok (.ifCond .ne 5, 3) := by decide +kernel
theorem dX10_readies_35 : decode cX10_readies 35 = .ok (.aload_n 0, 1) := by decide +kernel
theorem dX10_readies_36 : decode cX10_readies 36 = .ok (.getfield 56, 3) := by decide +kernel
theorem w_385 : Cond.fieldLink "QuarterWalks" 56 "QuarterWalks" "guess" "LQuarterWalks$Guess;" ∈ wAll := wI2 50 (by decide +kernel) (by decide +kernel)
theorem fl_X10_56 : fl RX10 56 11 6 := ⟨RX10, TX10, 10, rfl, inA_X10, by decide, w_385⟩
theorem dX10_readies_39 : decode cX10_readies 39 = .ok (.aload_n 0, 1) := by decide +kernel
theorem dX10_readies_40 : decode cX10_readies 40 = .ok (.aload 6, 2) := by decide +kernel
theorem dX10_readies_42 : decode cX10_readies 42 = .ok (.invokevirtual 320, 3) := by decide +kernel
theorem dX10_readies_45 : decode cX10_readies 45 = .ok (.iload_n 2, 1) := by decide +kernel
theorem dX10_readies_46 : decode cX10_readies 46 = .ok (.iload_n 3, 1) := by decide +kernel
theorem dX10_readies_47 : decode cX10_readies 47 = .ok (.invokevirtual 339, 3) := by decide +kernel
theorem w_1034 : Cond.methodLink "QuarterWalks" 339 yX3_load ∈ wAll := wI4 219 (by decide +kernel) (by decide +kernel)
theorem w_1036 : Cond.selects yX3_load.cls yX3_load yX3_load ∈ wAll := wI4 221 (by decide +kernel) (by decide +kernel)
theorem mk_X3_load : mk yX3_load 3 := ⟨by decide +kernel, w_105⟩
theorem w_1035 : Cond.instanceMethod yX3_load ∈ wAll := wI4 220 (by decide +kernel) (by decide +kernel)
theorem w_1037 : Cond.code yX3_load cX3_load 5 none ∈ wAll := wI4 222 (by decide +kernel) (by decide +kernel)
theorem dX10_readies_50 : decode cX10_readies 50 = .ok (.iconst 1, 1) := by decide +kernel
theorem dX10_readies_34 : decode cX10_readies 34 = .ok (.ireturn, 1) := by decide +kernel
theorem dX10_readies_51 : decode cX10_readies 51 = .ok (.ireturn, 1) := by decide +kernel
theorem dX10_recurrence_0 : decode cX10_recurrence 0 = .ok (.aload_n 0, 1) := by decide +kernel
theorem dX10_recurrence_1 : decode cX10_recurrence 1 = .ok (.iload_n 1, 1) := by decide +kernel
theorem dX10_recurrence_2 : decode cX10_recurrence 2 = .ok (.iload_n 2, 1) := by decide +kernel
theorem dX10_recurrence_3 : decode cX10_recurrence 3 = .ok (.iconst 0, 1) := by decide +kernel
theorem dX10_recurrence_4 : decode cX10_recurrence 4 = .ok (.iload_n 3, 1) := by decide +kernel
theorem dX10_recurrence_5 : decode cX10_recurrence 5 = .ok (.iload 4, 2) := by decide +kernel
theorem dX10_recurrence_7 : decode cX10_recurrence 7 = .ok (.invokevirtual 328, 3) := by decide +kernel
theorem w_1026 : Cond.methodLink "QuarterWalks" 328 yX10_readies ∈ wAll := wI4 211 (by decide +kernel) (by decide +kernel)
theorem w_27 : Cond.selects yX10_readies.cls yX10_readies yX10_readies ∈ wAll := wIn 27 (by decide +kernel) (by decide +kernel)
theorem mk_X10_readies : mk yX10_readies 5 := ⟨by decide +kernel, w_96⟩
theorem w_1028 : Cond.instanceMethod yX10_readies ∈ wAll := wI4 213 (by decide +kernel) (by decide +kernel)
theorem w_1029 : Cond.code yX10_readies cX10_readies 7 (some .boolean) ∈ wAll := wI4 214 (by decide +kernel) (by decide +kernel)
theorem dX10_recurrence_10 : decode cX10_recurrence 10 = .ok (.istore 7, 2) := by decide +kernel
theorem dX10_recurrence_12 : decode cX10_recurrence 12 = .ok (.iload 7, 2) := by decide +kernel
theorem dX10_recurrence_14 : decode cX10_recurrence 14 = .ok (.ifCond .eq 41, 3) := by decide +kernel
theorem dX10_recurrence_55 : decode cX10_recurrence 55 = .ok (.ldc 218, 2) := by decide +kernel
theorem dX10_recurrence_17 : decode cX10_recurrence 17 = .ok (.iload 5, 2) := by decide +kernel
theorem dX10_recurrence_19 : decode cX10_recurrence 19 = .ok (.iconst 0, 1) := by decide +kernel
theorem dX10_recurrence_20 : decode cX10_recurrence 20 = .ok (.iload_n 3, 1) := by decide +kernel
theorem dX10_recurrence_21 : decode cX10_recurrence 21 = .ok (.invokestatic 87, 3) := by decide +kernel
theorem dX10_recurrence_24 : decode cX10_recurrence 24 = .ok (.ifCond .eq 31, 3) := by decide +kernel
theorem dX10_recurrence_27 : decode cX10_recurrence 27 = .ok (.iload 6, 2) := by decide +kernel
theorem dX10_recurrence_29 : decode cX10_recurrence 29 = .ok (.iconst 0, 1) := by decide +kernel
theorem dX10_recurrence_30 : decode cX10_recurrence 30 = .ok (.iload 4, 2) := by decide +kernel
theorem dX10_recurrence_32 : decode cX10_recurrence 32 = .ok (.invokestatic 87, 3) := by decide +kernel
theorem dX10_recurrence_35 : decode cX10_recurrence 35 = .ok (.ifCond .eq 20, 3) := by decide +kernel
theorem dX10_recurrence_38 : decode cX10_recurrence 38 = .ok (.aload_n 0, 1) := by decide +kernel
theorem dX10_recurrence_39 : decode cX10_recurrence 39 = .ok (.getfield 56, 3) := by decide +kernel
theorem dX10_recurrence_42 : decode cX10_recurrence 42 = .ok (.iload_n 3, 1) := by decide +kernel
theorem dX10_recurrence_43 : decode cX10_recurrence 43 = .ok (.iload 4, 2) := by decide +kernel
theorem dX10_recurrence_45 : decode cX10_recurrence 45 = .ok (.iload 5, 2) := by decide +kernel
theorem dX10_recurrence_47 : decode cX10_recurrence 47 = .ok (.iload 6, 2) := by decide +kernel
theorem dX10_recurrence_49 : decode cX10_recurrence 49 = .ok (.invokevirtual 332, 3) := by decide +kernel
theorem w_1044 : Cond.methodLink "QuarterWalks" 332 yX3_coefficient ∈ wAll := wI4 229 (by decide +kernel) (by decide +kernel)
theorem w_1046 : Cond.selects yX3_coefficient.cls yX3_coefficient yX3_coefficient ∈ wAll := wI4 231 (by decide +kernel) (by decide +kernel)
theorem mk_X3_coefficient : mk yX3_coefficient 4 := ⟨by decide +kernel, w_105⟩
theorem w_1045 : Cond.instanceMethod yX3_coefficient ∈ wAll := wI4 230 (by decide +kernel) (by decide +kernel)
theorem w_1047 : Cond.code yX3_coefficient cX3_coefficient 6 (some .int) ∈ wAll := wI4 232 (by decide +kernel) (by decide +kernel)
theorem dX10_recurrence_52 : decode cX10_recurrence 52 = .ok (.goto 5, 3) := by decide +kernel
theorem dX10_recurrence_57 : decode cX10_recurrence 57 = .ok (.ireturn, 1) := by decide +kernel
theorem dX10_fails_0 : decode cX10_fails 0 = .ok (.aload_n 0, 1) := by decide +kernel
theorem dX10_fails_1 : decode cX10_fails 1 = .ok (.iload_n 1, 1) := by decide +kernel
theorem dX10_fails_2 : decode cX10_fails 2 = .ok (.iload_n 2, 1) := by decide +kernel
theorem dX10_fails_3 : decode cX10_fails 3 = .ok (.iconst 0, 1) := by decide +kernel
theorem dX10_fails_4 : decode cX10_fails 4 = .ok (.iload_n 3, 1) := by decide +kernel
theorem dX10_fails_5 : decode cX10_fails 5 = .ok (.iload 4, 2) := by decide +kernel
theorem dX10_fails_7 : decode cX10_fails 7 = .ok (.invokevirtual 328, 3) := by decide +kernel
theorem dX10_fails_10 : decode cX10_fails 10 = .ok (.ifCond .eq 16, 3) := by decide +kernel
theorem dX10_fails_26 : decode cX10_fails 26 = .ok (.ldc 218, 2) := by decide +kernel
theorem dX10_fails_13 : decode cX10_fails 13 = .ok (.aload_n 0, 1) := by decide +kernel
theorem dX10_fails_14 : decode cX10_fails 14 = .ok (.getfield 56, 3) := by decide +kernel
theorem dX10_fails_17 : decode cX10_fails 17 = .ok (.iload_n 3, 1) := by decide +kernel
theorem dX10_fails_18 : decode cX10_fails 18 = .ok (.iload 4, 2) := by decide +kernel
theorem dX10_fails_20 : decode cX10_fails 20 = .ok (.invokevirtual 336, 3) := by decide +kernel
theorem w_1071 : Cond.methodLink "QuarterWalks" 336 yX3_failing ∈ wAll := wI5 16 (by decide +kernel) (by decide +kernel)
theorem w_1073 : Cond.selects yX3_failing.cls yX3_failing yX3_failing ∈ wAll := wI5 18 (by decide +kernel) (by decide +kernel)
theorem mk_X3_failing : mk yX3_failing 2 := ⟨by decide +kernel, w_105⟩
theorem w_1072 : Cond.instanceMethod yX3_failing ∈ wAll := wI5 17 (by decide +kernel) (by decide +kernel)
theorem w_1074 : Cond.code yX3_failing cX3_failing 3 (some .int) ∈ wAll := wI5 19 (by decide +kernel) (by decide +kernel)
theorem dX10_fails_23 : decode cX10_fails 23 = .ok (.goto 5, 3) := by decide +kernel
theorem dX10_fails_28 : decode cX10_fails 28 = .ok (.ireturn, 1) := by decide +kernel
theorem dX10_equation_0 : decode cX10_equation 0 = .ok (.aload_n 0, 1) := by decide +kernel
theorem dX10_equation_1 : decode cX10_equation 1 = .ok (.iload_n 1, 1) := by decide +kernel
theorem dX10_equation_2 : decode cX10_equation 2 = .ok (.iload_n 2, 1) := by decide +kernel
theorem dX10_equation_3 : decode cX10_equation 3 = .ok (.iconst 1, 1) := by decide +kernel
theorem dX10_equation_4 : decode cX10_equation 4 = .ok (.iload_n 3, 1) := by decide +kernel
theorem dX10_equation_5 : decode cX10_equation 5 = .ok (.iload 4, 2) := by decide +kernel
theorem dX10_equation_7 : decode cX10_equation 7 = .ok (.invokevirtual 328, 3) := by decide +kernel
theorem dX10_equation_10 : decode cX10_equation 10 = .ok (.istore 7, 2) := by decide +kernel
theorem dX10_equation_12 : decode cX10_equation 12 = .ok (.iload 7, 2) := by decide +kernel
theorem dX10_equation_14 : decode cX10_equation 14 = .ok (.ifCond .eq 41, 3) := by decide +kernel
theorem dX10_equation_55 : decode cX10_equation 55 = .ok (.ldc 218, 2) := by decide +kernel
theorem dX10_equation_17 : decode cX10_equation 17 = .ok (.iload 5, 2) := by decide +kernel
theorem dX10_equation_19 : decode cX10_equation 19 = .ok (.iconst 0, 1) := by decide +kernel
theorem dX10_equation_20 : decode cX10_equation 20 = .ok (.iload_n 3, 1) := by decide +kernel
theorem dX10_equation_21 : decode cX10_equation 21 = .ok (.invokestatic 87, 3) := by decide +kernel
theorem dX10_equation_24 : decode cX10_equation 24 = .ok (.ifCond .eq 31, 3) := by decide +kernel
theorem dX10_equation_27 : decode cX10_equation 27 = .ok (.iload 6, 2) := by decide +kernel
theorem dX10_equation_29 : decode cX10_equation 29 = .ok (.iconst 0, 1) := by decide +kernel
theorem dX10_equation_30 : decode cX10_equation 30 = .ok (.iload 4, 2) := by decide +kernel
theorem dX10_equation_32 : decode cX10_equation 32 = .ok (.invokestatic 87, 3) := by decide +kernel
theorem dX10_equation_35 : decode cX10_equation 35 = .ok (.ifCond .eq 20, 3) := by decide +kernel
theorem dX10_equation_38 : decode cX10_equation 38 = .ok (.aload_n 0, 1) := by decide +kernel
theorem dX10_equation_39 : decode cX10_equation 39 = .ok (.getfield 56, 3) := by decide +kernel
theorem dX10_equation_42 : decode cX10_equation 42 = .ok (.iload_n 3, 1) := by decide +kernel
theorem dX10_equation_43 : decode cX10_equation 43 = .ok (.iload 4, 2) := by decide +kernel
theorem dX10_equation_45 : decode cX10_equation 45 = .ok (.iload 5, 2) := by decide +kernel
theorem dX10_equation_47 : decode cX10_equation 47 = .ok (.iload 6, 2) := by decide +kernel
theorem dX10_equation_49 : decode cX10_equation 49 = .ok (.invokevirtual 332, 3) := by decide +kernel
theorem dX10_equation_52 : decode cX10_equation 52 = .ok (.goto 5, 3) := by decide +kernel
theorem dX10_equation_57 : decode cX10_equation 57 = .ok (.ireturn, 1) := by decide +kernel
theorem dX10_breaks_0 : decode cX10_breaks 0 = .ok (.aload_n 0, 1) := by decide +kernel
theorem dX10_breaks_1 : decode cX10_breaks 1 = .ok (.iload_n 1, 1) := by decide +kernel
theorem dX10_breaks_2 : decode cX10_breaks 2 = .ok (.iload_n 2, 1) := by decide +kernel
theorem dX10_breaks_3 : decode cX10_breaks 3 = .ok (.iconst 1, 1) := by decide +kernel
theorem dX10_breaks_4 : decode cX10_breaks 4 = .ok (.iload_n 3, 1) := by decide +kernel
theorem dX10_breaks_5 : decode cX10_breaks 5 = .ok (.iload 4, 2) := by decide +kernel
theorem dX10_breaks_7 : decode cX10_breaks 7 = .ok (.invokevirtual 328, 3) := by decide +kernel
theorem dX10_breaks_10 : decode cX10_breaks 10 = .ok (.ifCond .eq 16, 3) := by decide +kernel
theorem dX10_breaks_26 : decode cX10_breaks 26 = .ok (.ldc 218, 2) := by decide +kernel
theorem dX10_breaks_13 : decode cX10_breaks 13 = .ok (.aload_n 0, 1) := by decide +kernel
theorem dX10_breaks_14 : decode cX10_breaks 14 = .ok (.getfield 56, 3) := by decide +kernel
theorem dX10_breaks_17 : decode cX10_breaks 17 = .ok (.iload_n 3, 1) := by decide +kernel
theorem dX10_breaks_18 : decode cX10_breaks 18 = .ok (.iload 4, 2) := by decide +kernel
theorem dX10_breaks_20 : decode cX10_breaks 20 = .ok (.invokevirtual 336, 3) := by decide +kernel
theorem dX10_breaks_23 : decode cX10_breaks 23 = .ok (.goto 5, 3) := by decide +kernel
theorem dX10_breaks_28 : decode cX10_breaks 28 = .ok (.ireturn, 1) := by decide +kernel
abbrev rm_s_X0_findN : Room := { frames := 1, cells := 0, slots := 0, locals := 22 }
set_option maxRecDepth 100000 in
set_option maxHeartbeats 4000000 in
theorem s_X0_findN (l : Launch) (D : va_G) (G : Nat → Nat) (b0 : Nat) (τ : Nat → Nat) (f : hM) (t : TI G 9 τ f) (u0 : Nat) (hu0 : τ u0 = 12) (u1 : Int32) (hu1 : iv u1 (-2147483648) 2147483647) : mQ l yX0_find cX0_find 2 (.object "QuarterWalks$StepSet") rm_s_X0_findN D G b0 f [.ref u0, .int u1] (fun r f1 => (∀ z, r = some z → τ z = 1) ∧ TI G 9 τ f1 ∧ Fr [] τ f f1 ∧ (∀ z, r = some z → iv u1 0 7)) := by
  refine met2 (own := RX0) (by decide) rfl (Nat.le_of_ble_eq_true rfl) ?_
  intro p e s m args below meth c ls Q hQ C hr hini hl h
  have hl : lv_has ls 2 [(0, .ref u0), (1, .int u1)] := hl
  obtain ⟨hx, hb, hml, hown, hts, hE0, hlk⟩ := id C
  have o := Fr.rf [] τ f
  refine lv_iload_n hx hb dX0_find_0 rfl (lv_at hl 1 rfl) ?_
  refine lv_iconst (v := 0) hx hb dX0_find_1 (by decide) ?_
  refine lv_aload_n hx hb dX0_find_2 rfl (lv_at hl 0 rfl) ?_
  refine t_getr (tq := 15) C h t hu0 (by decide) wf_12 rfl fl_X0_12 dX0_find_3 (fun q1 tq1 => ?_)
  refine t_geti C h t tq1 (by decide) wf_15 rfl fl_X0_25 dX0_find_6 (fun z2 iz2 => ?_)
  refine lv_iconst (v := 1) hx hb dX0_find_9 (by decide) ?_
  refine i_subk hx hb dX0_find_10 iz2 (k := 1) rfl (lo := (-1)) (hi := 7) (by decide) (fun z3 ez3 mz3 iz3 => ?_)
  refine k_i (r_SN C h hl (host := "QuarterWalks") (As := [.int u1, .int 0, .int z3]) (rest := []) (s_X10_within l D G b0 τ f t u1 hu1 0 (iv_w (iv_k (x := 0) (k := 0) rfl) (by decide)) z3 (iv_w iz3 (by decide))) mk_X10_within (by decide) w_426 w_427 ⟨Nat.le_of_ble_eq_true rfl, Nat.le_of_ble_eq_true rfl⟩ rfl (Nat.le_of_ble_eq_true rfl) ⟨Nat.le_of_ble_eq_true rfl, Nat.le_of_ble_eq_true rfl⟩ rfl dX0_find_11) h (fun r4 f5 H locs p6 h => ?_)
  have n7 : (0 : Int32).toInt = 0 := rfl
  obtain ⟨ir4, tf5, ogf5, cnr4, czr4⟩ := p6
  have egf5 := Fr.nil2 ogf5
  subst egf5
  refine lv_if_eq (tgt := 29) hx hb dX0_find_14 (by decide) (fun c8 => ?_) (fun c8 => ?_)
  · have c9 : r4.toInt = 0 := congrArg Int32.toInt c8
    have i10 : iv r4 0 0 := iv_Q c9 ir4 (iv_k (x := 0) (k := 0) rfl) (by decide)
    have i11 := czr4 c9
    refine lv_null hx hb dX0_find_29 ?_
    exact u_aret C h hr (Or.inl ⟨_, rfl⟩) hQ (v := none) (⟨(fun z_ h_ => by cases h_), t, o, (fun z_ h_ => by cases h_)⟩) (Nat.le_of_ble_eq_true rfl) (Nat.le_of_ble_eq_true rfl) rfl dX0_find_30
  · have c12 : r4.toInt ≠ 0 := fun z_ => c8 (Int32.toInt_inj.mp z_)
    have i13 : iv r4 1 1 := iv_Nl c12 ir4 (by decide)
    obtain ⟨i14, i15⟩ := cnr4 c12
    have i16 : iv u1 0 7 := ⟨by omega, by omega⟩
    refine lv_aload_n hx hb dX0_find_17 rfl (lv_at hl 0 rfl) ?_
    refine t_getr (tq := 15) C h t hu0 (by decide) wf_12 rfl fl_X0_12 dX0_find_18 (fun q17 tq17 => ?_)
    refine t_getr (tq := 4) C h t tq17 (by decide) wf_15 rfl fl_X0_33 dX0_find_21 (fun q18 tq18 => ?_)
    refine lv_iload_n hx hb dX0_find_24 rfl (lv_at hl 1 rfl) ?_
    refine t_aaldO C h t (g := 4) rfl tq18 (by decide) wf_4 (iv_in i16 (by decide)) dX0_find_25 (fun q19 tq19 => ?_)
    refine lv_goto (tgt := 30) hx hb dX0_find_26 (by decide) ?_
    exact u_aret C h hr (Or.inl ⟨_, rfl⟩) hQ (v := q19) (⟨tq19, t, o, (fun z_ h_ => i16)⟩) (Nat.le_of_ble_eq_true rfl) (Nat.le_of_ble_eq_true rfl) rfl dX0_find_30
abbrev rm_s_X2_tabulated : Room := { frames := 4, cells := 1, slots := 305, locals := 88 }
set_option maxRecDepth 100000 in
set_option maxHeartbeats 4000000 in
theorem s_X2_tabulated (l : Launch) (D : va_G) (G : Nat → Nat) (b0 : Nat) (τ : Nat → Nat) (f : hM) (t : TI G 9 τ f) (u0 : Nat) (hu0 : τ u0 = 20) (u1 : Nat) (hu1 : τ u1 = 1) (rq mq : Nat) (hGJ : GJ τ f u0 rq mq) : mQ l yX2_tabulated cX2_tabulated 4 (.array .int) rm_s_X2_tabulated D G b0 f [.ref u0, .ref u1] (fun r f1 => (∃ τ1, Ex τ τ1 ∧ (∃ z, r = some z ∧ τ1 z = 3) ∧ TI G 9 τ1 f1 ∧ Fr [0, 3, 20, 21, 22, 23, 24, 25, 20001, 20002, 20007, 20008, 20009, 20010, 20011, 22001, 22002, 22003, 22004, 23001, 23002, 23003, 23004] τ f f1 ∧ GJ τ1 f1 u0 rq mq)) := by
  refine met2 (own := RX2) (by decide) rfl (Nat.le_of_ble_eq_true rfl) ?_
  intro p e s m args below meth c ls Q hQ C hr hini hl h
  have hl : lv_has ls 4 [(0, .ref u0), (1, .ref u1)] := hl
  obtain ⟨hx, hb, hml, hown, hts, hE0, hlk⟩ := id C
  have o := Fr.rf [0, 3, 20, 21, 22, 23, 24, 25, 20001, 20002, 20007, 20008, 20009, 20010, 20011, 22001, 22002, 22003, 22004, 23001, 23002, 23003, 23004] τ f
  obtain ⟨sx, sy, rl, rb, rr, rt, ml, mb, mr, mt, ⟨trq, tmq⟩, ⟨kg3, kg2, ksx, ksy⟩, ⟨krl, krb, krr, krt⟩, ⟨kml, kmb, kmr, kmt⟩, ⟨isx, isy, irl, irb, irr, irt, iml, imb, imr, imt⟩, ⟨gr1, gr2, gr3, gr4⟩, ⟨gr5, gr6, gr7, gr8⟩, hGZ⟩ := hGJ
  refine lv_sipush (v := 305) hx hb dX2_tabulated_0 (by decide) ?_
  refine q_newa C h (atype := .int) 1 rfl rfl rfl w_161 (a0 := (305, .inl (fun _ => 0))) (fun _ => rfl) (by decide) (N' := 305) (by decide) (Nat.le_of_ble_eq_true rfl) (Nat.le_of_ble_eq_true rfl) (Nat.le_of_ble_eq_true rfl) dX2_tabulated_3 (fun qa_1 H nqa_1 h => ?_)
  have tfa_2 := TI.new (tg := 3) (e := (.inl (G 1, 305, .inl (fun _ => 0)))) t nqa_1 (fw_3 _ ⟨_, rfl, fun j => ⟨by decide, by decide⟩⟩)
  have esqa_1 : Ex τ (tu τ qa_1 3) := TI.newEx t nqa_1
  have ozfa_2 : Fr [0, 3, 20, 21, 22, 23, 24, 25, 20001, 20002, 20007, 20008, 20009, 20010, 20011, 22001, 22002, 22003, 22004, 23001, 23002, 23003, 23004] τ f (hu f qa_1 (.inl (G 1, 305, .inl (fun _ => 0)))) := Fr.new o nqa_1 (TI.zero t nqa_1) (by decide)
  have tqqa_1 : tu τ qa_1 3 qa_1 = 3 := tu_self _ _ _
  generalize tu τ qa_1 3 = τqa_1 at tfa_2 esqa_1 tqqa_1
  have ka_3 := GZ.new hGZ nqa_1 (e := (.inl (G 1, 305, .inl (fun _ => 0))))
  have ka_4 := atp.new kg3 nqa_1 (e := (.inl (G 1, 305, .inl (fun _ => 0))))
  have ka_5 := atp.new kg2 nqa_1 (e := (.inl (G 1, 305, .inl (fun _ => 0))))
  have ka_6 := atp.new ksx nqa_1 (e := (.inl (G 1, 305, .inl (fun _ => 0))))
  have ka_7 := atp.new ksy nqa_1 (e := (.inl (G 1, 305, .inl (fun _ => 0))))
  have ka_8 := atp.new krl nqa_1 (e := (.inl (G 1, 305, .inl (fun _ => 0))))
  have ka_9 := atp.new krb nqa_1 (e := (.inl (G 1, 305, .inl (fun _ => 0))))
  have ka_10 := atp.new krr nqa_1 (e := (.inl (G 1, 305, .inl (fun _ => 0))))
  have ka_11 := atp.new krt nqa_1 (e := (.inl (G 1, 305, .inl (fun _ => 0))))
  have ka_12 := atp.new kml nqa_1 (e := (.inl (G 1, 305, .inl (fun _ => 0))))
  have ka_13 := atp.new kmb nqa_1 (e := (.inl (G 1, 305, .inl (fun _ => 0))))
  have ka_14 := atp.new kmr nqa_1 (e := (.inl (G 1, 305, .inl (fun _ => 0))))
  have ka_15 := atp.new kmt nqa_1 (e := (.inl (G 1, 305, .inl (fun _ => 0))))
  generalize hu f qa_1 (.inl (G 1, 305, .inl (fun _ => 0))) = fa_2 at h tfa_2 ozfa_2 ka_3 ka_4 ka_5 ka_6 ka_7 ka_8 ka_9 ka_10 ka_11 ka_12 ka_13 ka_14 ka_15
  have Ofa_2 : Fr [0, 3, 20, 21, 22, 23, 24, 25, 20001, 20002, 20007, 20008, 20009, 20010, 20011, 22001, 22002, 22003, 22004, 23001, 23002, 23003, 23004] τ f fa_2 := ozfa_2
  have xfa_2 : Ex τ τqa_1 := esqa_1
  have ha_16 : τqa_1 u0 = 20 := Ex.at esqa_1 hu0 (by decide)
  have ha_17 : τqa_1 u1 = 1 := Ex.at esqa_1 hu1 (by decide)
  have ka_18 := GZ.ex ka_3 esqa_1
  have ha_19 : τqa_1 rq = 23 := Ex.at esqa_1 trq (by decide)
  have ha_20 : τqa_1 mq = 22 := Ex.at esqa_1 tmq (by decide)
  have ofa_2z := Fr.rf [0, 3, 20, 21, 22, 23, 24, 25, 20001, 20002, 20007, 20008, 20009, 20010, 20011, 22001, 22002, 22003, 22004, 23001, 23002, 23003, 23004] τqa_1 fa_2
  refine lv_astore_n (lv' := [(2, .ref qa_1), (0, .ref u0), (1, .ref u1)]) hx hb dX2_tabulated_5 rfl hl (by decide) rfl (fun ls hl => ?_)
  refine lv_aload_n hx hb dX2_tabulated_6 rfl (lv_at hl 1 rfl) ?_
  refine lv_aload_n hx hb dX2_tabulated_7 rfl (lv_at hl 2 rfl) ?_
  refine lv_iconst (v := 0) hx hb dX2_tabulated_8 (by decide) ?_
  refine lv_iconst (v := 0) hx hb dX2_tabulated_9 (by decide) ?_
  obtain ⟨wqP10, twP10, kwP10⟩ := t_fref (tq := 2) (k := 0) tfa_2 ha_17 (by decide) wf_1 rfl
  obtain ⟨sxP10, isxP10, kxP10⟩ := t_fint (k := 1) tfa_2 ha_17 (by decide) wf_1 rfl
  obtain ⟨syP10, isyP10, kyP10⟩ := t_fint (k := 2) tfa_2 ha_17 (by decide) wf_1 rfl
  obtain ⟨wwP10, krP10, hwP10⟩ := ia_get tfa_2 twP10 (by decide) wf_2
  have gja_21 : GJ τqa_1 fa_2 u0 rq mq := ⟨sx, sy, rl, rb, rr, rt, ml, mb, mr, mt, ⟨ha_19, ha_20⟩, ⟨ka_4, ka_5, ka_6, ka_7⟩, ⟨ka_8, ka_9, ka_10, ka_11⟩, ⟨ka_12, ka_13, ka_14, ka_15⟩, ⟨isx, isy, irl, irb, irr, irt, iml, imb, imr, imt⟩, ⟨by omega, by omega, by omega, by omega⟩, ⟨by omega, by omega, by omega, by omega⟩, ka_18⟩
  obtain ⟨_, ra_22⟩ := t_rec tfa_2 ha_16 (by decide) wf_20
  refine k_v (r_V C h hl (As := [.ref u1, .int 0, .int 0]) (rest := []) (s_X2_open l D G b0 τqa_1 fa_2 tfa_2 u0 ha_16 u1 ha_17 0 (iv_w (iv_k (x := 0) (k := 0) rfl) (by decide)) 0 (iv_w (iv_k (x := 0) (k := 0) rfl) (by decide)) wqP10 twP10 kwP10 sxP10 isxP10 kxP10 syP10 isyP10 kyP10 rq mq gja_21 wwP10 krP10 (row10 wwP10 sxP10 syP10) 0 (row10_in hwP10)) ra_22 (Cn := RX2) (T := TX2) (N := 11) rfl rfl mk_X2_open w_663 w_664 w_665 w_666 ⟨Nat.le_of_ble_eq_true rfl, Nat.le_of_ble_eq_true rfl⟩ rfl (Nat.le_of_ble_eq_true rfl) ⟨Nat.le_of_ble_eq_true rfl, Nat.le_of_ble_eq_true rfl⟩ rfl dX2_tabulated_10) h (fun fa_24 H locs pa_25 h => ?_)
  have na_26 : (0 : Int32).toInt = 0 := rfl
  have na_27 : (0 : Int32).toInt = 0 := rfl
  obtain ⟨tfa_24, ogfa_24, x0ra_23, gjfa_24⟩ := pa_25
  have ofa_24 : Fr [0, 3, 20, 21, 22, 23, 24, 25, 20001, 20002, 20007, 20008, 20009, 20010, 20011, 22001, 22002, 22003, 22004, 23001, 23002, 23003, 23004] τqa_1 fa_2 fa_24 := Fr.tr ofa_2z ogfa_24 (by decide) (by decide)
  have ka_28 := atp.fk ka_4 ogfa_24 ha_16 (by decide) (by decide)
  have ka_29 := atp.fk ka_5 ogfa_24 ha_16 (by decide) (by decide)
  have ka_30 := atp.fr kwP10 ogfa_24 ha_17 (by decide)
  have ka_31 := atp.fr krP10 ogfa_24 twP10 (by decide)
  have ka_32 := atp.fr kxP10 ogfa_24 ha_17 (by decide)
  have ka_33 := atp.fr kyP10 ogfa_24 ha_17 (by decide)
  obtain ⟨sxfa_24, syfa_24, rlfa_24, rbfa_24, rrfa_24, rtfa_24, mlfa_24, mbfa_24, mrfa_24, mtfa_24, -, ⟨kg3fa_24, kg2fa_24, ksxfa_24, ksyfa_24⟩, ⟨krlfa_24, krbfa_24, krrfa_24, krtfa_24⟩, ⟨kmlfa_24, kmbfa_24, kmrfa_24, kmtfa_24⟩, ⟨isxfa_24, isyfa_24, irlfa_24, irbfa_24, irrfa_24, irtfa_24, imlfa_24, imbfa_24, imrfa_24, imtfa_24⟩, ⟨gr1fa_24, gr2fa_24, gr3fa_24, gr4fa_24⟩, ⟨gr5fa_24, gr6fa_24, gr7fa_24, gr8fa_24⟩, hGZfa_24⟩ := gjfa_24
  refine lv_iconst (v := 0) hx hb dX2_tabulated_13 (by decide) ?_
  refine lv_istore_n (lv' := [(3, .int 0), (2, .ref qa_1), (0, .ref u0), (1, .ref u1)]) hx hb dX2_tabulated_14 rfl hl (by decide) rfl (fun ls hl => ?_)
  have L15 : ∀ (n15 : Nat) (ls : Array Slot) (f_15 : hM) (H : Heap) (locs : List Loc) (v15_3 : Int32) (g15_u0_9 : Int32) (g15_u0_10 : Int32) (g15_rq_0 : Int32) (g15_rq_1 : Int32) (g15_rq_2 : Int32) (g15_rq_3 : Int32) (g15_mq_0 : Int32) (g15_mq_1 : Int32) (g15_mq_2 : Int32) (g15_mq_3 : Int32), 61 - v15_3.toInt < (n15 : Int) → lv_has ls 4 [(0, .ref u0), (2, .ref qa_1), (3, .int v15_3)] → hw D b0 s.heap f_15 H locs → TI G 9 τqa_1 f_15 → Fr [0, 3, 20, 21, 22, 23, 24, 25, 20001, 20002, 20007, 20008, 20009, 20010, 20011, 22001, 22002, 22003, 22004, 23001, 23002, 23003, 23004] τqa_1 fa_2 f_15 → iv v15_3 0 61 → iv sxP10 0 9 → iv syP10 0 9 → iv g15_u0_9 0 9 → iv g15_u0_10 0 9 → iv g15_rq_0 (-60) 69 → iv g15_rq_1 (-60) 69 → iv g15_rq_2 (-60) 69 → iv g15_rq_3 (-60) 69 → iv g15_mq_0 (-60) 69 → iv g15_mq_1 (-60) 69 → iv g15_mq_2 (-60) 69 → iv g15_mq_3 (-60) 69 → atp f_15 u0 (fd 3 (.ref rq)) → atp f_15 u0 (fd 2 (.ref mq)) → atp f_15 u1 (fd 1 (.int sxP10)) → atp f_15 u1 (fd 2 (.int syP10)) → atp f_15 u0 (fd 9 (.int g15_u0_9)) → atp f_15 u0 (fd 10 (.int g15_u0_10)) → atp f_15 rq (fd 0 (.int g15_rq_0)) → atp f_15 rq (fd 1 (.int g15_rq_1)) → atp f_15 rq (fd 2 (.int g15_rq_2)) → atp f_15 rq (fd 3 (.int g15_rq_3)) → atp f_15 mq (fd 0 (.int g15_mq_0)) → atp f_15 mq (fd 1 (.int g15_mq_1)) → atp f_15 mq (fd 2 (.int g15_mq_2)) → atp f_15 mq (fd 3 (.int g15_mq_3)) → (∃ (vb : Nat → Int32) (vu : Int) (P : Int → Int → Bool) (md : Int), GS G τqa_1 f_15 u0 rq mq vb vu P md (Int.toNat (v15_3.toInt - 1))) → W p l e rm_s_X2_tabulated s m args below meth c H locs 1 305 Q (F0 m 15 ls []) := by
    intro n15
    induction n15 with
    | zero => intro ls f_15 H locs v15_3 g15_u0_9 g15_u0_10 g15_rq_0 g15_rq_1 g15_rq_2 g15_rq_3 g15_mq_0 g15_mq_1 g15_mq_2 g15_mq_3 hm15 hl h t_15 o_15 iv15_3 jg15_u1_1 jg15_u1_2 ig15_u0_9 ig15_u0_10 ig15_rq_0 ig15_rq_1 ig15_rq_2 ig15_rq_3 ig15_mq_0 ig15_mq_1 ig15_mq_2 ig15_mq_3 k15_u0_3 k15_u0_2 k15_u1_1 k15_u1_2 k15_u0_9 k15_u0_10 k15_rq_0 k15_rq_1 k15_rq_2 k15_rq_3 k15_mq_0 k15_mq_1 k15_mq_2 k15_mq_3 hv15_0; exact absurd hm15 (by omega)
    | succ n15 ih15 =>
      intro ls f_15 H locs v15_3 g15_u0_9 g15_u0_10 g15_rq_0 g15_rq_1 g15_rq_2 g15_rq_3 g15_mq_0 g15_mq_1 g15_mq_2 g15_mq_3 hm15 hl h t_15 o_15 iv15_3 jg15_u1_1 jg15_u1_2 ig15_u0_9 ig15_u0_10 ig15_rq_0 ig15_rq_1 ig15_rq_2 ig15_rq_3 ig15_mq_0 ig15_mq_1 ig15_mq_2 ig15_mq_3 k15_u0_3 k15_u0_2 k15_u1_1 k15_u1_2 k15_u0_9 k15_u0_10 k15_rq_0 k15_rq_1 k15_rq_2 k15_rq_3 k15_mq_0 k15_mq_1 k15_mq_2 k15_mq_3 hv15_0
      refine lv_iload_n hx hb dX2_tabulated_15 rfl (lv_at hl 2 rfl) ?_
      refine lv_bipush (v := 60) hx hb dX2_tabulated_16 (by decide) ?_
      refine lv_icmp_gt (tgt := 102) hx hb dX2_tabulated_18 (by decide) (fun cab15_1 => ?_) (fun cab15_1 => ?_)
      · have cab15_2 : 60 < v15_3.toInt := Int32.lt_iff_toInt_lt.mp cab15_1
        have iab15_3 : iv v15_3 61 61 := iv_Lr cab15_2 (iv_k (x := 60) (k := 60) rfl) iv15_3 (by decide)
        obtain ⟨vb_, vu_, P_, md_, hgs_⟩ := hv15_0
        obtain ⟨sxb15_102, syb15_102, rlb15_102, rbb15_102, rrb15_102, rtb15_102, mlb15_102, mbb15_102, mrb15_102, mtb15_102, -, ⟨kg3b15_102, kg2b15_102, ksxb15_102, ksyb15_102⟩, ⟨krlb15_102, krbb15_102, krrb15_102, krtb15_102⟩, ⟨kmlb15_102, kmbb15_102, kmrb15_102, kmtb15_102⟩, ⟨isxb15_102, isyb15_102, irlb15_102, irbb15_102, irrb15_102, irtb15_102, imlb15_102, imbb15_102, imrb15_102, imtb15_102⟩, ⟨gr1b15_102, gr2b15_102, gr3b15_102, gr4b15_102⟩, ⟨gr5b15_102, gr6b15_102, gr7b15_102, gr8b15_102⟩, hGZb15_102⟩ := GS.gj hgs_
        refine lv_aload_n hx hb dX2_tabulated_102 rfl (lv_at hl 1 rfl) ?_
        have gjab15_4 : GJ τqa_1 f_15 u0 rq mq := ⟨sxb15_102, syb15_102, rlb15_102, rbb15_102, rrb15_102, rtb15_102, mlb15_102, mbb15_102, mrb15_102, mtb15_102, ⟨ha_19, ha_20⟩, ⟨kg3b15_102, kg2b15_102, ksxb15_102, ksyb15_102⟩, ⟨krlb15_102, krbb15_102, krrb15_102, krtb15_102⟩, ⟨kmlb15_102, kmbb15_102, kmrb15_102, kmtb15_102⟩, ⟨isxb15_102, isyb15_102, irlb15_102, irbb15_102, irrb15_102, irtb15_102, imlb15_102, imbb15_102, imrb15_102, imtb15_102⟩, ⟨by omega, by omega, by omega, by omega⟩, ⟨by omega, by omega, by omega, by omega⟩, hGZb15_102⟩
        exact u_aret C h hr (Or.inr ⟨_, rfl⟩) hQ (v := some qa_1) (⟨τqa_1, xfa_2, ⟨_, rfl, tqqa_1⟩, t_15, (Fr.tr Ofa_2 (Fr.cv xfa_2 o_15 (by decide) (fun _ h_ => h_)) (fun _ h_ => h_) (fun _ h_ => h_)), gjab15_4⟩) (Nat.le_of_ble_eq_true rfl) (Nat.le_of_ble_eq_true rfl) rfl dX2_tabulated_103
      · have cab15_2 : v15_3.toInt ≤ 60 := Int32.le_iff_toInt_le.mp (iv_nlt cab15_1)
        have iab15_3 : iv v15_3 0 60 := iv_El cab15_2 iv15_3 (iv_k (x := 60) (k := 60) rfl) (by decide)
        obtain ⟨vb_, vu_, P_, md_, hgs_⟩ := hv15_0
        obtain ⟨sxb15_21, syb15_21, rlb15_21, rbb15_21, rrb15_21, rtb15_21, mlb15_21, mbb15_21, mrb15_21, mtb15_21, -, ⟨kg3b15_21, kg2b15_21, ksxb15_21, ksyb15_21⟩, ⟨krlb15_21, krbb15_21, krrb15_21, krtb15_21⟩, ⟨kmlb15_21, kmbb15_21, kmrb15_21, kmtb15_21⟩, ⟨isxb15_21, isyb15_21, irlb15_21, irbb15_21, irrb15_21, irtb15_21, imlb15_21, imbb15_21, imrb15_21, imtb15_21⟩, ⟨gr1b15_21, gr2b15_21, gr3b15_21, gr4b15_21⟩, ⟨gr5b15_21, gr6b15_21, gr7b15_21, gr8b15_21⟩, hGZb15_21⟩ := GS.gj hgs_
        refine lv_iload_n hx hb dX2_tabulated_21 rfl (lv_at hl 2 rfl) ?_
        refine lv_if_le (tgt := 30) hx hb dX2_tabulated_22 (by decide) (fun cab15_4 => ?_) (fun cab15_4 => ?_)
        · have cab15_5 : v15_3.toInt ≤ 0 := Int32.le_iff_toInt_le.mp cab15_4
          have iab15_6 : iv v15_3 0 0 := iv_El cab15_5 iab15_3 (iv_k (x := 0) (k := 0) rfl) (by decide)
          refine lv_aload_n hx hb dX2_tabulated_30 rfl (lv_at hl 1 rfl) ?_
          refine lv_iload_n hx hb dX2_tabulated_31 rfl (lv_at hl 2 rfl) ?_
          refine lv_aload_n hx hb dX2_tabulated_32 rfl (lv_at hl 0 rfl) ?_
          have gjab15_7 : GJ τqa_1 f_15 u0 rq mq := ⟨sxb15_21, syb15_21, rlb15_21, rbb15_21, rrb15_21, rtb15_21, mlb15_21, mbb15_21, mrb15_21, mtb15_21, ⟨ha_19, ha_20⟩, ⟨kg3b15_21, kg2b15_21, ksxb15_21, ksyb15_21⟩, ⟨krlb15_21, krbb15_21, krrb15_21, krtb15_21⟩, ⟨kmlb15_21, kmbb15_21, kmrb15_21, kmtb15_21⟩, ⟨isxb15_21, isyb15_21, irlb15_21, irbb15_21, irrb15_21, irtb15_21, imlb15_21, imbb15_21, imrb15_21, imtb15_21⟩, ⟨by omega, by omega, by omega, by omega⟩, ⟨by omega, by omega, by omega, by omega⟩, hGZb15_21⟩
          obtain ⟨_, rab15_8⟩ := t_rec t_15 ha_16 (by decide) wf_20
          refine k_i (r_V C h hl (As := []) (rest := [.int v15_3, .ref qa_1]) (s_X2_total l D G b0 τqa_1 f_15 t_15 u0 ha_16 rq mq gjab15_7) rab15_8 (Cn := RX2) (T := TX2) (N := 11) rfl rfl mk_X2_total w_736 w_737 w_738 w_739 ⟨Nat.le_of_ble_eq_true rfl, Nat.le_of_ble_eq_true rfl⟩ rfl (Nat.le_of_ble_eq_true rfl) ⟨Nat.le_of_ble_eq_true rfl, Nat.le_of_ble_eq_true rfl⟩ rfl dX2_tabulated_33) h (fun rab15_9 fab15_10 H locs pab15_11 h => ?_)
          obtain ⟨irab15_9, tfab15_10, ogfab15_10⟩ := pab15_11
          have egfab15_10 := Fr.nil2 ogfab15_10
          subst egfab15_10
          refine t_iast C h t_15 o_15 tqqa_1 (by decide) (by decide) wf_3 fw_3 (iv_in iab15_6 (by decide)) irab15_9 dX2_tabulated_36 (fun fab15_12 H locs h tfab15_12 ofab15_12 hq => ?_)
          have kab15_13 := atp.tg kg3b15_21 hq ha_16 (by decide)
          have kab15_14 := atp.tg kg2b15_21 hq ha_16 (by decide)
          have kab15_15 := atp.tg k15_u1_1 hq ha_17 (by decide)
          have kab15_16 := atp.tg k15_u1_2 hq ha_17 (by decide)
          have kab15_17 := atp.tg ksxb15_21 hq ha_16 (by decide)
          have kab15_18 := atp.tg ksyb15_21 hq ha_16 (by decide)
          have kab15_19 := atp.tg krlb15_21 hq ha_19 (by decide)
          have kab15_20 := atp.tg krbb15_21 hq ha_19 (by decide)
          have kab15_21 := atp.tg krrb15_21 hq ha_19 (by decide)
          have kab15_22 := atp.tg krtb15_21 hq ha_19 (by decide)
          have kab15_23 := atp.tg kmlb15_21 hq ha_20 (by decide)
          have kab15_24 := atp.tg kmbb15_21 hq ha_20 (by decide)
          have kab15_25 := atp.tg kmrb15_21 hq ha_20 (by decide)
          have kab15_26 := atp.tg kmtb15_21 hq ha_20 (by decide)
          have kab15_27 := GS.tg hgs_ hq (by decide)
          have kab15_28 := GZ.tg hGZb15_21 hq ha_16 (by decide)
          refine lv_aload_n hx hb dX2_tabulated_37 rfl (lv_at hl 1 rfl) ?_
          refine lv_bipush (v := 61) hx hb dX2_tabulated_38 (by decide) ?_
          refine lv_iload_n hx hb dX2_tabulated_40 rfl (lv_at hl 2 rfl) ?_
          refine i_kadd hx hb dX2_tabulated_41 (k := 61) rfl iab15_6 (lo := 61) (hi := 61) (by decide) (fun zab15_29 ezab15_29 mzab15_29 izab15_29 => ?_)
          refine lv_aload_n hx hb dX2_tabulated_42 rfl (lv_at hl 0 rfl) ?_
          refine lv_aload_n hx hb dX2_tabulated_43 rfl (lv_at hl 0 rfl) ?_
          refine t_getfd C h tfab15_12 ha_16 (by decide) wf_20 (v := .int sxb15_21) kab15_17 fl_X2_55 dX2_tabulated_44 ?_
          refine lv_aload_n hx hb dX2_tabulated_47 rfl (lv_at hl 0 rfl) ?_
          refine t_getfd C h tfab15_12 ha_16 (by decide) wf_20 (v := .int syb15_21) kab15_18 fl_X2_59 dX2_tabulated_48 ?_
          have gjab15_30 : GJ τqa_1 fab15_12 u0 rq mq := ⟨sxb15_21, syb15_21, rlb15_21, rbb15_21, rrb15_21, rtb15_21, mlb15_21, mbb15_21, mrb15_21, mtb15_21, ⟨ha_19, ha_20⟩, ⟨kab15_13, kab15_14, kab15_17, kab15_18⟩, ⟨kab15_19, kab15_20, kab15_21, kab15_22⟩, ⟨kab15_23, kab15_24, kab15_25, kab15_26⟩, ⟨isxb15_21, isyb15_21, irlb15_21, irbb15_21, irrb15_21, irtb15_21, imlb15_21, imbb15_21, imrb15_21, imtb15_21⟩, ⟨by omega, by omega, by omega, by omega⟩, ⟨by omega, by omega, by omega, by omega⟩, kab15_28⟩
          obtain ⟨_, rab15_31⟩ := t_rec tfab15_12 ha_16 (by decide) wf_20
          refine k_l (r_V C h hl (As := [.int sxb15_21, .int syb15_21]) (rest := [.int zab15_29, .ref qa_1]) (s_X2_seen l D G b0 τqa_1 fab15_12 tfab15_12 u0 ha_16 sxb15_21 (iv_w isxb15_21 (by decide)) syb15_21 (iv_w isyb15_21 (by decide)) rq mq gjab15_30) rab15_31 (Cn := RX2) (T := TX2) (N := 11) rfl rfl mk_X2_seen w_744 w_710 w_711 w_712 ⟨Nat.le_of_ble_eq_true rfl, Nat.le_of_ble_eq_true rfl⟩ rfl (Nat.le_of_ble_eq_true rfl) ⟨Nat.le_of_ble_eq_true rfl, Nat.le_of_ble_eq_true rfl⟩ rfl dX2_tabulated_51) h (fun rab15_32 fab15_33 H locs pab15_34 h => ?_)
          obtain ⟨tfab15_33, ogfab15_33⟩ := pab15_34
          have egfab15_33 := Fr.nil2 ogfab15_33
          subst egfab15_33
          refine k_i (r_SN C h hl (host := "QuarterWalks") (As := [.long rab15_32]) (rest := [.int zab15_29, .ref qa_1]) (s_X10_residue l D G b0 τqa_1 fab15_12 tfab15_12 rab15_32) mk_X10_residue (by decide) w_741 w_742 ⟨Nat.le_of_ble_eq_true rfl, Nat.le_of_ble_eq_true rfl⟩ rfl (Nat.le_of_ble_eq_true rfl) ⟨Nat.le_of_ble_eq_true rfl, Nat.le_of_ble_eq_true rfl⟩ rfl dX2_tabulated_54) h (fun rab15_35 fab15_36 H locs pab15_37 h => ?_)
          obtain ⟨irab15_35, tfab15_36, ogfab15_36⟩ := pab15_37
          have egfab15_36 := Fr.nil2 ogfab15_36
          subst egfab15_36
          refine t_iast C h tfab15_12 ofab15_12 tqqa_1 (by decide) (by decide) wf_3 fw_3 (iv_in izab15_29 (by decide)) irab15_35 dX2_tabulated_57 (fun fab15_38 H locs h tfab15_38 ofab15_38 hq => ?_)
          have kab15_39 := atp.tg kab15_13 hq ha_16 (by decide)
          have kab15_40 := atp.tg kab15_14 hq ha_16 (by decide)
          have kab15_41 := atp.tg kab15_15 hq ha_17 (by decide)
          have kab15_42 := atp.tg kab15_16 hq ha_17 (by decide)
          have kab15_43 := atp.tg kab15_17 hq ha_16 (by decide)
          have kab15_44 := atp.tg kab15_18 hq ha_16 (by decide)
          have kab15_45 := atp.tg kab15_19 hq ha_19 (by decide)
          have kab15_46 := atp.tg kab15_20 hq ha_19 (by decide)
          have kab15_47 := atp.tg kab15_21 hq ha_19 (by decide)
          have kab15_48 := atp.tg kab15_22 hq ha_19 (by decide)
          have kab15_49 := atp.tg kab15_23 hq ha_20 (by decide)
          have kab15_50 := atp.tg kab15_24 hq ha_20 (by decide)
          have kab15_51 := atp.tg kab15_25 hq ha_20 (by decide)
          have kab15_52 := atp.tg kab15_26 hq ha_20 (by decide)
          have kab15_53 := GS.tg kab15_27 hq (by decide)
          have kab15_54 := GZ.tg kab15_28 hq ha_16 (by decide)
          refine lv_aload_n hx hb dX2_tabulated_58 rfl (lv_at hl 1 rfl) ?_
          refine lv_bipush (v := 122) hx hb dX2_tabulated_59 (by decide) ?_
          refine lv_iload_n hx hb dX2_tabulated_61 rfl (lv_at hl 2 rfl) ?_
          refine i_kadd hx hb dX2_tabulated_62 (k := 122) rfl iab15_6 (lo := 122) (hi := 122) (by decide) (fun zab15_55 ezab15_55 mzab15_55 izab15_55 => ?_)
          refine lv_aload_n hx hb dX2_tabulated_63 rfl (lv_at hl 0 rfl) ?_
          refine lv_iconst (v := 1) hx hb dX2_tabulated_64 (by decide) ?_
          refine lv_iconst (v := 0) hx hb dX2_tabulated_65 (by decide) ?_
          have gjab15_56 : GJ τqa_1 fab15_38 u0 rq mq := ⟨sxb15_21, syb15_21, rlb15_21, rbb15_21, rrb15_21, rtb15_21, mlb15_21, mbb15_21, mrb15_21, mtb15_21, ⟨ha_19, ha_20⟩, ⟨kab15_39, kab15_40, kab15_43, kab15_44⟩, ⟨kab15_45, kab15_46, kab15_47, kab15_48⟩, ⟨kab15_49, kab15_50, kab15_51, kab15_52⟩, ⟨isxb15_21, isyb15_21, irlb15_21, irbb15_21, irrb15_21, irtb15_21, imlb15_21, imbb15_21, imrb15_21, imtb15_21⟩, ⟨by omega, by omega, by omega, by omega⟩, ⟨by omega, by omega, by omega, by omega⟩, kab15_54⟩
          obtain ⟨_, rab15_57⟩ := t_rec tfab15_38 ha_16 (by decide) wf_20
          refine k_i (r_V C h hl (As := [.int 1, .int 0]) (rest := [.int zab15_55, .ref qa_1]) (s_X2_alongLine l D G b0 τqa_1 fab15_38 tfab15_38 u0 ha_16 1 (iv_w (iv_k (x := 1) (k := 1) rfl) (by decide)) 0 (iv_w (iv_k (x := 0) (k := 0) rfl) (by decide)) rq mq gjab15_56) rab15_57 (Cn := RX2) (T := TX2) (N := 11) rfl rfl mk_X2_alongLine w_745 w_747 w_19 w_748 ⟨Nat.le_of_ble_eq_true rfl, Nat.le_of_ble_eq_true rfl⟩ rfl (Nat.le_of_ble_eq_true rfl) ⟨Nat.le_of_ble_eq_true rfl, Nat.le_of_ble_eq_true rfl⟩ rfl dX2_tabulated_66) h (fun rab15_58 fab15_59 H locs pab15_60 h => ?_)
          obtain ⟨irab15_58, tfab15_59, ogfab15_59⟩ := pab15_60
          have egfab15_59 := Fr.nil2 ogfab15_59
          subst egfab15_59
          refine t_iast C h tfab15_38 ofab15_38 tqqa_1 (by decide) (by decide) wf_3 fw_3 (iv_in izab15_55 (by decide)) irab15_58 dX2_tabulated_69 (fun fab15_61 H locs h tfab15_61 ofab15_61 hq => ?_)
          have kab15_62 := atp.tg kab15_39 hq ha_16 (by decide)
          have kab15_63 := atp.tg kab15_40 hq ha_16 (by decide)
          have kab15_64 := atp.tg kab15_41 hq ha_17 (by decide)
          have kab15_65 := atp.tg kab15_42 hq ha_17 (by decide)
          have kab15_66 := atp.tg kab15_43 hq ha_16 (by decide)
          have kab15_67 := atp.tg kab15_44 hq ha_16 (by decide)
          have kab15_68 := atp.tg kab15_45 hq ha_19 (by decide)
          have kab15_69 := atp.tg kab15_46 hq ha_19 (by decide)
          have kab15_70 := atp.tg kab15_47 hq ha_19 (by decide)
          have kab15_71 := atp.tg kab15_48 hq ha_19 (by decide)
          have kab15_72 := atp.tg kab15_49 hq ha_20 (by decide)
          have kab15_73 := atp.tg kab15_50 hq ha_20 (by decide)
          have kab15_74 := atp.tg kab15_51 hq ha_20 (by decide)
          have kab15_75 := atp.tg kab15_52 hq ha_20 (by decide)
          have kab15_76 := GS.tg kab15_53 hq (by decide)
          have kab15_77 := GZ.tg kab15_54 hq ha_16 (by decide)
          refine lv_aload_n hx hb dX2_tabulated_70 rfl (lv_at hl 1 rfl) ?_
          refine lv_sipush (v := 183) hx hb dX2_tabulated_71 (by decide) ?_
          refine lv_iload_n hx hb dX2_tabulated_74 rfl (lv_at hl 2 rfl) ?_
          refine i_kadd hx hb dX2_tabulated_75 (k := 183) rfl iab15_6 (lo := 183) (hi := 183) (by decide) (fun zab15_78 ezab15_78 mzab15_78 izab15_78 => ?_)
          refine lv_aload_n hx hb dX2_tabulated_76 rfl (lv_at hl 0 rfl) ?_
          refine lv_iconst (v := 0) hx hb dX2_tabulated_77 (by decide) ?_
          refine lv_iconst (v := 1) hx hb dX2_tabulated_78 (by decide) ?_
          have gjab15_79 : GJ τqa_1 fab15_61 u0 rq mq := ⟨sxb15_21, syb15_21, rlb15_21, rbb15_21, rrb15_21, rtb15_21, mlb15_21, mbb15_21, mrb15_21, mtb15_21, ⟨ha_19, ha_20⟩, ⟨kab15_62, kab15_63, kab15_66, kab15_67⟩, ⟨kab15_68, kab15_69, kab15_70, kab15_71⟩, ⟨kab15_72, kab15_73, kab15_74, kab15_75⟩, ⟨isxb15_21, isyb15_21, irlb15_21, irbb15_21, irrb15_21, irtb15_21, imlb15_21, imbb15_21, imrb15_21, imtb15_21⟩, ⟨by omega, by omega, by omega, by omega⟩, ⟨by omega, by omega, by omega, by omega⟩, kab15_77⟩
          obtain ⟨_, rab15_80⟩ := t_rec tfab15_61 ha_16 (by decide) wf_20
          refine k_i (r_V C h hl (As := [.int 0, .int 1]) (rest := [.int zab15_78, .ref qa_1]) (s_X2_alongLine l D G b0 τqa_1 fab15_61 tfab15_61 u0 ha_16 0 (iv_w (iv_k (x := 0) (k := 0) rfl) (by decide)) 1 (iv_w (iv_k (x := 1) (k := 1) rfl) (by decide)) rq mq gjab15_79) rab15_80 (Cn := RX2) (T := TX2) (N := 11) rfl rfl mk_X2_alongLine w_745 w_747 w_19 w_748 ⟨Nat.le_of_ble_eq_true rfl, Nat.le_of_ble_eq_true rfl⟩ rfl (Nat.le_of_ble_eq_true rfl) ⟨Nat.le_of_ble_eq_true rfl, Nat.le_of_ble_eq_true rfl⟩ rfl dX2_tabulated_79) h (fun rab15_81 fab15_82 H locs pab15_83 h => ?_)
          obtain ⟨irab15_81, tfab15_82, ogfab15_82⟩ := pab15_83
          have egfab15_82 := Fr.nil2 ogfab15_82
          subst egfab15_82
          refine t_iast C h tfab15_61 ofab15_61 tqqa_1 (by decide) (by decide) wf_3 fw_3 (iv_in izab15_78 (by decide)) irab15_81 dX2_tabulated_82 (fun fab15_84 H locs h tfab15_84 ofab15_84 hq => ?_)
          have kab15_85 := atp.tg kab15_62 hq ha_16 (by decide)
          have kab15_86 := atp.tg kab15_63 hq ha_16 (by decide)
          have kab15_87 := atp.tg kab15_64 hq ha_17 (by decide)
          have kab15_88 := atp.tg kab15_65 hq ha_17 (by decide)
          have kab15_89 := atp.tg kab15_66 hq ha_16 (by decide)
          have kab15_90 := atp.tg kab15_67 hq ha_16 (by decide)
          have kab15_91 := atp.tg kab15_68 hq ha_19 (by decide)
          have kab15_92 := atp.tg kab15_69 hq ha_19 (by decide)
          have kab15_93 := atp.tg kab15_70 hq ha_19 (by decide)
          have kab15_94 := atp.tg kab15_71 hq ha_19 (by decide)
          have kab15_95 := atp.tg kab15_72 hq ha_20 (by decide)
          have kab15_96 := atp.tg kab15_73 hq ha_20 (by decide)
          have kab15_97 := atp.tg kab15_74 hq ha_20 (by decide)
          have kab15_98 := atp.tg kab15_75 hq ha_20 (by decide)
          have kab15_99 := GS.tg kab15_76 hq (by decide)
          have kab15_100 := GZ.tg kab15_77 hq ha_16 (by decide)
          refine lv_aload_n hx hb dX2_tabulated_83 rfl (lv_at hl 1 rfl) ?_
          refine lv_sipush (v := 244) hx hb dX2_tabulated_84 (by decide) ?_
          refine lv_iload_n hx hb dX2_tabulated_87 rfl (lv_at hl 2 rfl) ?_
          refine i_kadd hx hb dX2_tabulated_88 (k := 244) rfl iab15_6 (lo := 244) (hi := 244) (by decide) (fun zab15_101 ezab15_101 mzab15_101 izab15_101 => ?_)
          refine lv_aload_n hx hb dX2_tabulated_89 rfl (lv_at hl 0 rfl) ?_
          refine lv_iconst (v := 1) hx hb dX2_tabulated_90 (by decide) ?_
          refine lv_iconst (v := 1) hx hb dX2_tabulated_91 (by decide) ?_
          have gjab15_102 : GJ τqa_1 fab15_84 u0 rq mq := ⟨sxb15_21, syb15_21, rlb15_21, rbb15_21, rrb15_21, rtb15_21, mlb15_21, mbb15_21, mrb15_21, mtb15_21, ⟨ha_19, ha_20⟩, ⟨kab15_85, kab15_86, kab15_89, kab15_90⟩, ⟨kab15_91, kab15_92, kab15_93, kab15_94⟩, ⟨kab15_95, kab15_96, kab15_97, kab15_98⟩, ⟨isxb15_21, isyb15_21, irlb15_21, irbb15_21, irrb15_21, irtb15_21, imlb15_21, imbb15_21, imrb15_21, imtb15_21⟩, ⟨by omega, by omega, by omega, by omega⟩, ⟨by omega, by omega, by omega, by omega⟩, kab15_100⟩
          obtain ⟨_, rab15_103⟩ := t_rec tfab15_84 ha_16 (by decide) wf_20
          refine k_i (r_V C h hl (As := [.int 1, .int 1]) (rest := [.int zab15_101, .ref qa_1]) (s_X2_alongLine l D G b0 τqa_1 fab15_84 tfab15_84 u0 ha_16 1 (iv_w (iv_k (x := 1) (k := 1) rfl) (by decide)) 1 (iv_w (iv_k (x := 1) (k := 1) rfl) (by decide)) rq mq gjab15_102) rab15_103 (Cn := RX2) (T := TX2) (N := 11) rfl rfl mk_X2_alongLine w_745 w_747 w_19 w_748 ⟨Nat.le_of_ble_eq_true rfl, Nat.le_of_ble_eq_true rfl⟩ rfl (Nat.le_of_ble_eq_true rfl) ⟨Nat.le_of_ble_eq_true rfl, Nat.le_of_ble_eq_true rfl⟩ rfl dX2_tabulated_92) h (fun rab15_104 fab15_105 H locs pab15_106 h => ?_)
          obtain ⟨irab15_104, tfab15_105, ogfab15_105⟩ := pab15_106
          have egfab15_105 := Fr.nil2 ogfab15_105
          subst egfab15_105
          refine t_iast C h tfab15_84 ofab15_84 tqqa_1 (by decide) (by decide) wf_3 fw_3 (iv_in izab15_101 (by decide)) irab15_104 dX2_tabulated_95 (fun fab15_107 H locs h tfab15_107 ofab15_107 hq => ?_)
          have kab15_108 := atp.tg kab15_85 hq ha_16 (by decide)
          have kab15_109 := atp.tg kab15_86 hq ha_16 (by decide)
          have kab15_110 := atp.tg kab15_87 hq ha_17 (by decide)
          have kab15_111 := atp.tg kab15_88 hq ha_17 (by decide)
          have kab15_112 := atp.tg kab15_89 hq ha_16 (by decide)
          have kab15_113 := atp.tg kab15_90 hq ha_16 (by decide)
          have kab15_114 := atp.tg kab15_91 hq ha_19 (by decide)
          have kab15_115 := atp.tg kab15_92 hq ha_19 (by decide)
          have kab15_116 := atp.tg kab15_93 hq ha_19 (by decide)
          have kab15_117 := atp.tg kab15_94 hq ha_19 (by decide)
          have kab15_118 := atp.tg kab15_95 hq ha_20 (by decide)
          have kab15_119 := atp.tg kab15_96 hq ha_20 (by decide)
          have kab15_120 := atp.tg kab15_97 hq ha_20 (by decide)
          have kab15_121 := atp.tg kab15_98 hq ha_20 (by decide)
          have kab15_122 := GS.tg kab15_99 hq (by decide)
          have kab15_123 := GZ.tg kab15_100 hq ha_16 (by decide)
          refine i_inc hx hb dX2_tabulated_96 hl (k := 2) rfl iab15_6 rfl (lo := 1) (hi := 1) (by decide) (by decide) (lv' := fun v => [(3, .int v), (0, .ref u0), (2, .ref qa_1)]) (fun _ => rfl) (fun zab15_124 ls ezab15_124 mzab15_124 izab15_124 hl => ?_)
          refine lv_goto (tgt := 15) hx hb dX2_tabulated_99 (by decide) ?_
          exact ih15 ls fab15_107 H locs zab15_124 sxb15_21 syb15_21 rlb15_21 rbb15_21 rrb15_21 rtb15_21 mlb15_21 mbb15_21 mrb15_21 mtb15_21 (show 61 - zab15_124.toInt < _ by omega) (lv_cons hl 1 rfl (lv_cons hl 2 rfl (lv_cons hl 0 rfl (lv_nil hl)))) h tfab15_107 ofab15_107 (iv_w izab15_124 (by decide)) jg15_u1_1 jg15_u1_2 isxb15_21 isyb15_21 irlb15_21 irbb15_21 irrb15_21 irtb15_21 imlb15_21 imbb15_21 imrb15_21 imtb15_21 kab15_108 kab15_109 kab15_110 kab15_111 kab15_112 kab15_113 kab15_114 kab15_115 kab15_116 kab15_117 kab15_118 kab15_119 kab15_120 kab15_121 (show ∃ (vb : Nat → Int32) (vu : Int) (P : Int → Int → Bool) (md : Int), GS G τqa_1 fab15_107 u0 rq mq vb vu P md (Int.toNat (zab15_124.toInt - 1)) from ⟨_, _, _, _, (by rw [show Int.toNat (zab15_124.toInt - 1) = (Int.toNat (v15_3.toInt - 1)) from by have n1_ : (1 : Int32).toInt = 1 := rfl; omega]; exact kab15_122)⟩)
        · have cab15_5 : 0 < v15_3.toInt := Int32.lt_iff_toInt_lt.mp (iv_nle cab15_4)
          have iab15_6 : iv v15_3 1 60 := iv_Lr cab15_5 (iv_k (x := 0) (k := 0) rfl) iab15_3 (by decide)
          refine lv_aload_n hx hb dX2_tabulated_25 rfl (lv_at hl 0 rfl) ?_
          refine lv_iconst (v := 1) hx hb dX2_tabulated_26 (by decide) ?_
          obtain ⟨_, rab15_7⟩ := t_rec t_15 ha_16 (by decide) wf_20
          refine k_v (r_V C h hl (As := [.int 1]) (rest := []) (s_X2_advance l D G b0 τqa_1 f_15 t_15 u0 ha_16 1 (iv_w (iv_k (x := 1) (k := 1) rfl) (by decide)) rq mq vb_ vu_ P_ md_ (Int.toNat (v15_3.toInt - 1)) hgs_ (by have n_ : (1 : Int32).toInt = 1 := rfl; omega)) rab15_7 (Cn := RX2) (T := TX2) (N := 11) rfl rfl mk_X2_advance w_687 w_688 w_689 w_690 ⟨Nat.le_of_ble_eq_true rfl, Nat.le_of_ble_eq_true rfl⟩ rfl (Nat.le_of_ble_eq_true rfl) ⟨Nat.le_of_ble_eq_true rfl, Nat.le_of_ble_eq_true rfl⟩ rfl dX2_tabulated_27) h (fun fab15_9 H locs pab15_10 h => ?_)
          have nab15_11 : (1 : Int32).toInt = 1 := rfl
          obtain ⟨tfab15_9, ogfab15_9, x0rab15_8⟩ := pab15_10
          have ofab15_9 : Fr [0, 3, 20, 21, 22, 23, 24, 25, 20001, 20002, 20007, 20008, 20009, 20010, 20011, 22001, 22002, 22003, 22004, 23001, 23002, 23003, 23004] τqa_1 fa_2 fab15_9 := Fr.tr o_15 ogfab15_9 (by decide) (by decide)
          have kab15_12 := atp.fk kg3b15_21 ogfab15_9 ha_16 (by decide) (by decide)
          have kab15_13 := atp.fk kg2b15_21 ogfab15_9 ha_16 (by decide) (by decide)
          have kab15_14 := atp.fr k15_u1_1 ogfab15_9 ha_17 (by decide)
          have kab15_15 := atp.fr k15_u1_2 ogfab15_9 ha_17 (by decide)
          have kab15_16 := atp.fk ksxb15_21 ogfab15_9 ha_16 (by decide) (by decide)
          have kab15_17 := atp.fk ksyb15_21 ogfab15_9 ha_16 (by decide) (by decide)
          have kab15_18 := atp.fr kmlb15_21 ogfab15_9 ha_20 (by decide)
          have kab15_19 := atp.fr kmbb15_21 ogfab15_9 ha_20 (by decide)
          have kab15_20 := atp.fr kmrb15_21 ogfab15_9 ha_20 (by decide)
          have kab15_21 := atp.fr kmtb15_21 ogfab15_9 ha_20 (by decide)
          obtain ⟨sxfab15_9, syfab15_9, rlfab15_9, rbfab15_9, rrfab15_9, rtfab15_9, mlfab15_9, mbfab15_9, mrfab15_9, mtfab15_9, -, ⟨kg3fab15_9, kg2fab15_9, ksxfab15_9, ksyfab15_9⟩, ⟨krlfab15_9, krbfab15_9, krrfab15_9, krtfab15_9⟩, ⟨kmlfab15_9, kmbfab15_9, kmrfab15_9, kmtfab15_9⟩, ⟨isxfab15_9, isyfab15_9, irlfab15_9, irbfab15_9, irrfab15_9, irtfab15_9, imlfab15_9, imbfab15_9, imrfab15_9, imtfab15_9⟩, ⟨gr1fab15_9, gr2fab15_9, gr3fab15_9, gr4fab15_9⟩, ⟨gr5fab15_9, gr6fab15_9, gr7fab15_9, gr8fab15_9⟩, hGZfab15_9⟩ := GS.gj x0rab15_8
          refine lv_aload_n hx hb dX2_tabulated_30 rfl (lv_at hl 1 rfl) ?_
          refine lv_iload_n hx hb dX2_tabulated_31 rfl (lv_at hl 2 rfl) ?_
          refine lv_aload_n hx hb dX2_tabulated_32 rfl (lv_at hl 0 rfl) ?_
          have gjab15_22 : GJ τqa_1 fab15_9 u0 rq mq := ⟨sxfab15_9, syfab15_9, rlfab15_9, rbfab15_9, rrfab15_9, rtfab15_9, mlfab15_9, mbfab15_9, mrfab15_9, mtfab15_9, ⟨ha_19, ha_20⟩, ⟨kg3fab15_9, kg2fab15_9, ksxfab15_9, ksyfab15_9⟩, ⟨krlfab15_9, krbfab15_9, krrfab15_9, krtfab15_9⟩, ⟨kmlfab15_9, kmbfab15_9, kmrfab15_9, kmtfab15_9⟩, ⟨isxfab15_9, isyfab15_9, irlfab15_9, irbfab15_9, irrfab15_9, irtfab15_9, imlfab15_9, imbfab15_9, imrfab15_9, imtfab15_9⟩, ⟨by omega, by omega, by omega, by omega⟩, ⟨by omega, by omega, by omega, by omega⟩, hGZfab15_9⟩
          obtain ⟨_, rab15_23⟩ := t_rec tfab15_9 ha_16 (by decide) wf_20
          refine k_i (r_V C h hl (As := []) (rest := [.int v15_3, .ref qa_1]) (s_X2_total l D G b0 τqa_1 fab15_9 tfab15_9 u0 ha_16 rq mq gjab15_22) rab15_23 (Cn := RX2) (T := TX2) (N := 11) rfl rfl mk_X2_total w_736 w_737 w_738 w_739 ⟨Nat.le_of_ble_eq_true rfl, Nat.le_of_ble_eq_true rfl⟩ rfl (Nat.le_of_ble_eq_true rfl) ⟨Nat.le_of_ble_eq_true rfl, Nat.le_of_ble_eq_true rfl⟩ rfl dX2_tabulated_33) h (fun rab15_24 fab15_25 H locs pab15_26 h => ?_)
          obtain ⟨irab15_24, tfab15_25, ogfab15_25⟩ := pab15_26
          have egfab15_25 := Fr.nil2 ogfab15_25
          subst egfab15_25
          refine t_iast C h tfab15_9 ofab15_9 tqqa_1 (by decide) (by decide) wf_3 fw_3 (iv_in iab15_6 (by decide)) irab15_24 dX2_tabulated_36 (fun fab15_27 H locs h tfab15_27 ofab15_27 hq => ?_)
          have kab15_28 := atp.tg kg3fab15_9 hq ha_16 (by decide)
          have kab15_29 := atp.tg kg2fab15_9 hq ha_16 (by decide)
          have kab15_30 := atp.tg kab15_14 hq ha_17 (by decide)
          have kab15_31 := atp.tg kab15_15 hq ha_17 (by decide)
          have kab15_32 := atp.tg ksxfab15_9 hq ha_16 (by decide)
          have kab15_33 := atp.tg ksyfab15_9 hq ha_16 (by decide)
          have kab15_34 := atp.tg kmlfab15_9 hq ha_20 (by decide)
          have kab15_35 := atp.tg kmbfab15_9 hq ha_20 (by decide)
          have kab15_36 := atp.tg kmrfab15_9 hq ha_20 (by decide)
          have kab15_37 := atp.tg kmtfab15_9 hq ha_20 (by decide)
          have kab15_38 := GS.tg x0rab15_8 hq (by decide)
          have kab15_39 := GZ.tg hGZfab15_9 hq ha_16 (by decide)
          have kab15_40 := atp.tg krlfab15_9 hq ha_19 (by decide)
          have kab15_41 := atp.tg krbfab15_9 hq ha_19 (by decide)
          have kab15_42 := atp.tg krrfab15_9 hq ha_19 (by decide)
          have kab15_43 := atp.tg krtfab15_9 hq ha_19 (by decide)
          refine lv_aload_n hx hb dX2_tabulated_37 rfl (lv_at hl 1 rfl) ?_
          refine lv_bipush (v := 61) hx hb dX2_tabulated_38 (by decide) ?_
          refine lv_iload_n hx hb dX2_tabulated_40 rfl (lv_at hl 2 rfl) ?_
          refine i_kadd hx hb dX2_tabulated_41 (k := 61) rfl iab15_6 (lo := 62) (hi := 121) (by decide) (fun zab15_44 ezab15_44 mzab15_44 izab15_44 => ?_)
          refine lv_aload_n hx hb dX2_tabulated_42 rfl (lv_at hl 0 rfl) ?_
          refine lv_aload_n hx hb dX2_tabulated_43 rfl (lv_at hl 0 rfl) ?_
          refine t_getfd C h tfab15_27 ha_16 (by decide) wf_20 (v := .int sxfab15_9) kab15_32 fl_X2_55 dX2_tabulated_44 ?_
          refine lv_aload_n hx hb dX2_tabulated_47 rfl (lv_at hl 0 rfl) ?_
          refine t_getfd C h tfab15_27 ha_16 (by decide) wf_20 (v := .int syfab15_9) kab15_33 fl_X2_59 dX2_tabulated_48 ?_
          have gjab15_45 : GJ τqa_1 fab15_27 u0 rq mq := ⟨sxfab15_9, syfab15_9, rlfab15_9, rbfab15_9, rrfab15_9, rtfab15_9, mlfab15_9, mbfab15_9, mrfab15_9, mtfab15_9, ⟨ha_19, ha_20⟩, ⟨kab15_28, kab15_29, kab15_32, kab15_33⟩, ⟨kab15_40, kab15_41, kab15_42, kab15_43⟩, ⟨kab15_34, kab15_35, kab15_36, kab15_37⟩, ⟨isxfab15_9, isyfab15_9, irlfab15_9, irbfab15_9, irrfab15_9, irtfab15_9, imlfab15_9, imbfab15_9, imrfab15_9, imtfab15_9⟩, ⟨by omega, by omega, by omega, by omega⟩, ⟨by omega, by omega, by omega, by omega⟩, kab15_39⟩
          obtain ⟨_, rab15_46⟩ := t_rec tfab15_27 ha_16 (by decide) wf_20
          refine k_l (r_V C h hl (As := [.int sxfab15_9, .int syfab15_9]) (rest := [.int zab15_44, .ref qa_1]) (s_X2_seen l D G b0 τqa_1 fab15_27 tfab15_27 u0 ha_16 sxfab15_9 (iv_w isxfab15_9 (by decide)) syfab15_9 (iv_w isyfab15_9 (by decide)) rq mq gjab15_45) rab15_46 (Cn := RX2) (T := TX2) (N := 11) rfl rfl mk_X2_seen w_744 w_710 w_711 w_712 ⟨Nat.le_of_ble_eq_true rfl, Nat.le_of_ble_eq_true rfl⟩ rfl (Nat.le_of_ble_eq_true rfl) ⟨Nat.le_of_ble_eq_true rfl, Nat.le_of_ble_eq_true rfl⟩ rfl dX2_tabulated_51) h (fun rab15_47 fab15_48 H locs pab15_49 h => ?_)
          obtain ⟨tfab15_48, ogfab15_48⟩ := pab15_49
          have egfab15_48 := Fr.nil2 ogfab15_48
          subst egfab15_48
          refine k_i (r_SN C h hl (host := "QuarterWalks") (As := [.long rab15_47]) (rest := [.int zab15_44, .ref qa_1]) (s_X10_residue l D G b0 τqa_1 fab15_27 tfab15_27 rab15_47) mk_X10_residue (by decide) w_741 w_742 ⟨Nat.le_of_ble_eq_true rfl, Nat.le_of_ble_eq_true rfl⟩ rfl (Nat.le_of_ble_eq_true rfl) ⟨Nat.le_of_ble_eq_true rfl, Nat.le_of_ble_eq_true rfl⟩ rfl dX2_tabulated_54) h (fun rab15_50 fab15_51 H locs pab15_52 h => ?_)
          obtain ⟨irab15_50, tfab15_51, ogfab15_51⟩ := pab15_52
          have egfab15_51 := Fr.nil2 ogfab15_51
          subst egfab15_51
          refine t_iast C h tfab15_27 ofab15_27 tqqa_1 (by decide) (by decide) wf_3 fw_3 (iv_in izab15_44 (by decide)) irab15_50 dX2_tabulated_57 (fun fab15_53 H locs h tfab15_53 ofab15_53 hq => ?_)
          have kab15_54 := atp.tg kab15_28 hq ha_16 (by decide)
          have kab15_55 := atp.tg kab15_29 hq ha_16 (by decide)
          have kab15_56 := atp.tg kab15_30 hq ha_17 (by decide)
          have kab15_57 := atp.tg kab15_31 hq ha_17 (by decide)
          have kab15_58 := atp.tg kab15_32 hq ha_16 (by decide)
          have kab15_59 := atp.tg kab15_33 hq ha_16 (by decide)
          have kab15_60 := atp.tg kab15_34 hq ha_20 (by decide)
          have kab15_61 := atp.tg kab15_35 hq ha_20 (by decide)
          have kab15_62 := atp.tg kab15_36 hq ha_20 (by decide)
          have kab15_63 := atp.tg kab15_37 hq ha_20 (by decide)
          have kab15_64 := GS.tg kab15_38 hq (by decide)
          have kab15_65 := GZ.tg kab15_39 hq ha_16 (by decide)
          have kab15_66 := atp.tg kab15_40 hq ha_19 (by decide)
          have kab15_67 := atp.tg kab15_41 hq ha_19 (by decide)
          have kab15_68 := atp.tg kab15_42 hq ha_19 (by decide)
          have kab15_69 := atp.tg kab15_43 hq ha_19 (by decide)
          refine lv_aload_n hx hb dX2_tabulated_58 rfl (lv_at hl 1 rfl) ?_
          refine lv_bipush (v := 122) hx hb dX2_tabulated_59 (by decide) ?_
          refine lv_iload_n hx hb dX2_tabulated_61 rfl (lv_at hl 2 rfl) ?_
          refine i_kadd hx hb dX2_tabulated_62 (k := 122) rfl iab15_6 (lo := 123) (hi := 182) (by decide) (fun zab15_70 ezab15_70 mzab15_70 izab15_70 => ?_)
          refine lv_aload_n hx hb dX2_tabulated_63 rfl (lv_at hl 0 rfl) ?_
          refine lv_iconst (v := 1) hx hb dX2_tabulated_64 (by decide) ?_
          refine lv_iconst (v := 0) hx hb dX2_tabulated_65 (by decide) ?_
          have gjab15_71 : GJ τqa_1 fab15_53 u0 rq mq := ⟨sxfab15_9, syfab15_9, rlfab15_9, rbfab15_9, rrfab15_9, rtfab15_9, mlfab15_9, mbfab15_9, mrfab15_9, mtfab15_9, ⟨ha_19, ha_20⟩, ⟨kab15_54, kab15_55, kab15_58, kab15_59⟩, ⟨kab15_66, kab15_67, kab15_68, kab15_69⟩, ⟨kab15_60, kab15_61, kab15_62, kab15_63⟩, ⟨isxfab15_9, isyfab15_9, irlfab15_9, irbfab15_9, irrfab15_9, irtfab15_9, imlfab15_9, imbfab15_9, imrfab15_9, imtfab15_9⟩, ⟨by omega, by omega, by omega, by omega⟩, ⟨by omega, by omega, by omega, by omega⟩, kab15_65⟩
          obtain ⟨_, rab15_72⟩ := t_rec tfab15_53 ha_16 (by decide) wf_20
          refine k_i (r_V C h hl (As := [.int 1, .int 0]) (rest := [.int zab15_70, .ref qa_1]) (s_X2_alongLine l D G b0 τqa_1 fab15_53 tfab15_53 u0 ha_16 1 (iv_w (iv_k (x := 1) (k := 1) rfl) (by decide)) 0 (iv_w (iv_k (x := 0) (k := 0) rfl) (by decide)) rq mq gjab15_71) rab15_72 (Cn := RX2) (T := TX2) (N := 11) rfl rfl mk_X2_alongLine w_745 w_747 w_19 w_748 ⟨Nat.le_of_ble_eq_true rfl, Nat.le_of_ble_eq_true rfl⟩ rfl (Nat.le_of_ble_eq_true rfl) ⟨Nat.le_of_ble_eq_true rfl, Nat.le_of_ble_eq_true rfl⟩ rfl dX2_tabulated_66) h (fun rab15_73 fab15_74 H locs pab15_75 h => ?_)
          obtain ⟨irab15_73, tfab15_74, ogfab15_74⟩ := pab15_75
          have egfab15_74 := Fr.nil2 ogfab15_74
          subst egfab15_74
          refine t_iast C h tfab15_53 ofab15_53 tqqa_1 (by decide) (by decide) wf_3 fw_3 (iv_in izab15_70 (by decide)) irab15_73 dX2_tabulated_69 (fun fab15_76 H locs h tfab15_76 ofab15_76 hq => ?_)
          have kab15_77 := atp.tg kab15_54 hq ha_16 (by decide)
          have kab15_78 := atp.tg kab15_55 hq ha_16 (by decide)
          have kab15_79 := atp.tg kab15_56 hq ha_17 (by decide)
          have kab15_80 := atp.tg kab15_57 hq ha_17 (by decide)
          have kab15_81 := atp.tg kab15_58 hq ha_16 (by decide)
          have kab15_82 := atp.tg kab15_59 hq ha_16 (by decide)
          have kab15_83 := atp.tg kab15_60 hq ha_20 (by decide)
          have kab15_84 := atp.tg kab15_61 hq ha_20 (by decide)
          have kab15_85 := atp.tg kab15_62 hq ha_20 (by decide)
          have kab15_86 := atp.tg kab15_63 hq ha_20 (by decide)
          have kab15_87 := GS.tg kab15_64 hq (by decide)
          have kab15_88 := GZ.tg kab15_65 hq ha_16 (by decide)
          have kab15_89 := atp.tg kab15_66 hq ha_19 (by decide)
          have kab15_90 := atp.tg kab15_67 hq ha_19 (by decide)
          have kab15_91 := atp.tg kab15_68 hq ha_19 (by decide)
          have kab15_92 := atp.tg kab15_69 hq ha_19 (by decide)
          refine lv_aload_n hx hb dX2_tabulated_70 rfl (lv_at hl 1 rfl) ?_
          refine lv_sipush (v := 183) hx hb dX2_tabulated_71 (by decide) ?_
          refine lv_iload_n hx hb dX2_tabulated_74 rfl (lv_at hl 2 rfl) ?_
          refine i_kadd hx hb dX2_tabulated_75 (k := 183) rfl iab15_6 (lo := 184) (hi := 243) (by decide) (fun zab15_93 ezab15_93 mzab15_93 izab15_93 => ?_)
          refine lv_aload_n hx hb dX2_tabulated_76 rfl (lv_at hl 0 rfl) ?_
          refine lv_iconst (v := 0) hx hb dX2_tabulated_77 (by decide) ?_
          refine lv_iconst (v := 1) hx hb dX2_tabulated_78 (by decide) ?_
          have gjab15_94 : GJ τqa_1 fab15_76 u0 rq mq := ⟨sxfab15_9, syfab15_9, rlfab15_9, rbfab15_9, rrfab15_9, rtfab15_9, mlfab15_9, mbfab15_9, mrfab15_9, mtfab15_9, ⟨ha_19, ha_20⟩, ⟨kab15_77, kab15_78, kab15_81, kab15_82⟩, ⟨kab15_89, kab15_90, kab15_91, kab15_92⟩, ⟨kab15_83, kab15_84, kab15_85, kab15_86⟩, ⟨isxfab15_9, isyfab15_9, irlfab15_9, irbfab15_9, irrfab15_9, irtfab15_9, imlfab15_9, imbfab15_9, imrfab15_9, imtfab15_9⟩, ⟨by omega, by omega, by omega, by omega⟩, ⟨by omega, by omega, by omega, by omega⟩, kab15_88⟩
          obtain ⟨_, rab15_95⟩ := t_rec tfab15_76 ha_16 (by decide) wf_20
          refine k_i (r_V C h hl (As := [.int 0, .int 1]) (rest := [.int zab15_93, .ref qa_1]) (s_X2_alongLine l D G b0 τqa_1 fab15_76 tfab15_76 u0 ha_16 0 (iv_w (iv_k (x := 0) (k := 0) rfl) (by decide)) 1 (iv_w (iv_k (x := 1) (k := 1) rfl) (by decide)) rq mq gjab15_94) rab15_95 (Cn := RX2) (T := TX2) (N := 11) rfl rfl mk_X2_alongLine w_745 w_747 w_19 w_748 ⟨Nat.le_of_ble_eq_true rfl, Nat.le_of_ble_eq_true rfl⟩ rfl (Nat.le_of_ble_eq_true rfl) ⟨Nat.le_of_ble_eq_true rfl, Nat.le_of_ble_eq_true rfl⟩ rfl dX2_tabulated_79) h (fun rab15_96 fab15_97 H locs pab15_98 h => ?_)
          obtain ⟨irab15_96, tfab15_97, ogfab15_97⟩ := pab15_98
          have egfab15_97 := Fr.nil2 ogfab15_97
          subst egfab15_97
          refine t_iast C h tfab15_76 ofab15_76 tqqa_1 (by decide) (by decide) wf_3 fw_3 (iv_in izab15_93 (by decide)) irab15_96 dX2_tabulated_82 (fun fab15_99 H locs h tfab15_99 ofab15_99 hq => ?_)
          have kab15_100 := atp.tg kab15_77 hq ha_16 (by decide)
          have kab15_101 := atp.tg kab15_78 hq ha_16 (by decide)
          have kab15_102 := atp.tg kab15_79 hq ha_17 (by decide)
          have kab15_103 := atp.tg kab15_80 hq ha_17 (by decide)
          have kab15_104 := atp.tg kab15_81 hq ha_16 (by decide)
          have kab15_105 := atp.tg kab15_82 hq ha_16 (by decide)
          have kab15_106 := atp.tg kab15_83 hq ha_20 (by decide)
          have kab15_107 := atp.tg kab15_84 hq ha_20 (by decide)
          have kab15_108 := atp.tg kab15_85 hq ha_20 (by decide)
          have kab15_109 := atp.tg kab15_86 hq ha_20 (by decide)
          have kab15_110 := GS.tg kab15_87 hq (by decide)
          have kab15_111 := GZ.tg kab15_88 hq ha_16 (by decide)
          have kab15_112 := atp.tg kab15_89 hq ha_19 (by decide)
          have kab15_113 := atp.tg kab15_90 hq ha_19 (by decide)
          have kab15_114 := atp.tg kab15_91 hq ha_19 (by decide)
          have kab15_115 := atp.tg kab15_92 hq ha_19 (by decide)
          refine lv_aload_n hx hb dX2_tabulated_83 rfl (lv_at hl 1 rfl) ?_
          refine lv_sipush (v := 244) hx hb dX2_tabulated_84 (by decide) ?_
          refine lv_iload_n hx hb dX2_tabulated_87 rfl (lv_at hl 2 rfl) ?_
          refine i_kadd hx hb dX2_tabulated_88 (k := 244) rfl iab15_6 (lo := 245) (hi := 304) (by decide) (fun zab15_116 ezab15_116 mzab15_116 izab15_116 => ?_)
          refine lv_aload_n hx hb dX2_tabulated_89 rfl (lv_at hl 0 rfl) ?_
          refine lv_iconst (v := 1) hx hb dX2_tabulated_90 (by decide) ?_
          refine lv_iconst (v := 1) hx hb dX2_tabulated_91 (by decide) ?_
          have gjab15_117 : GJ τqa_1 fab15_99 u0 rq mq := ⟨sxfab15_9, syfab15_9, rlfab15_9, rbfab15_9, rrfab15_9, rtfab15_9, mlfab15_9, mbfab15_9, mrfab15_9, mtfab15_9, ⟨ha_19, ha_20⟩, ⟨kab15_100, kab15_101, kab15_104, kab15_105⟩, ⟨kab15_112, kab15_113, kab15_114, kab15_115⟩, ⟨kab15_106, kab15_107, kab15_108, kab15_109⟩, ⟨isxfab15_9, isyfab15_9, irlfab15_9, irbfab15_9, irrfab15_9, irtfab15_9, imlfab15_9, imbfab15_9, imrfab15_9, imtfab15_9⟩, ⟨by omega, by omega, by omega, by omega⟩, ⟨by omega, by omega, by omega, by omega⟩, kab15_111⟩
          obtain ⟨_, rab15_118⟩ := t_rec tfab15_99 ha_16 (by decide) wf_20
          refine k_i (r_V C h hl (As := [.int 1, .int 1]) (rest := [.int zab15_116, .ref qa_1]) (s_X2_alongLine l D G b0 τqa_1 fab15_99 tfab15_99 u0 ha_16 1 (iv_w (iv_k (x := 1) (k := 1) rfl) (by decide)) 1 (iv_w (iv_k (x := 1) (k := 1) rfl) (by decide)) rq mq gjab15_117) rab15_118 (Cn := RX2) (T := TX2) (N := 11) rfl rfl mk_X2_alongLine w_745 w_747 w_19 w_748 ⟨Nat.le_of_ble_eq_true rfl, Nat.le_of_ble_eq_true rfl⟩ rfl (Nat.le_of_ble_eq_true rfl) ⟨Nat.le_of_ble_eq_true rfl, Nat.le_of_ble_eq_true rfl⟩ rfl dX2_tabulated_92) h (fun rab15_119 fab15_120 H locs pab15_121 h => ?_)
          obtain ⟨irab15_119, tfab15_120, ogfab15_120⟩ := pab15_121
          have egfab15_120 := Fr.nil2 ogfab15_120
          subst egfab15_120
          refine t_iast C h tfab15_99 ofab15_99 tqqa_1 (by decide) (by decide) wf_3 fw_3 (iv_in izab15_116 (by decide)) irab15_119 dX2_tabulated_95 (fun fab15_122 H locs h tfab15_122 ofab15_122 hq => ?_)
          have kab15_123 := atp.tg kab15_100 hq ha_16 (by decide)
          have kab15_124 := atp.tg kab15_101 hq ha_16 (by decide)
          have kab15_125 := atp.tg kab15_102 hq ha_17 (by decide)
          have kab15_126 := atp.tg kab15_103 hq ha_17 (by decide)
          have kab15_127 := atp.tg kab15_104 hq ha_16 (by decide)
          have kab15_128 := atp.tg kab15_105 hq ha_16 (by decide)
          have kab15_129 := atp.tg kab15_106 hq ha_20 (by decide)
          have kab15_130 := atp.tg kab15_107 hq ha_20 (by decide)
          have kab15_131 := atp.tg kab15_108 hq ha_20 (by decide)
          have kab15_132 := atp.tg kab15_109 hq ha_20 (by decide)
          have kab15_133 := GS.tg kab15_110 hq (by decide)
          have kab15_134 := GZ.tg kab15_111 hq ha_16 (by decide)
          have kab15_135 := atp.tg kab15_112 hq ha_19 (by decide)
          have kab15_136 := atp.tg kab15_113 hq ha_19 (by decide)
          have kab15_137 := atp.tg kab15_114 hq ha_19 (by decide)
          have kab15_138 := atp.tg kab15_115 hq ha_19 (by decide)
          refine i_inc hx hb dX2_tabulated_96 hl (k := 2) rfl iab15_6 rfl (lo := 2) (hi := 61) (by decide) (by decide) (lv' := fun v => [(3, .int v), (0, .ref u0), (2, .ref qa_1)]) (fun _ => rfl) (fun zab15_139 ls ezab15_139 mzab15_139 izab15_139 hl => ?_)
          refine lv_goto (tgt := 15) hx hb dX2_tabulated_99 (by decide) ?_
          exact ih15 ls fab15_122 H locs zab15_139 sxfab15_9 syfab15_9 rlfab15_9 rbfab15_9 rrfab15_9 rtfab15_9 mlfab15_9 mbfab15_9 mrfab15_9 mtfab15_9 (show 61 - zab15_139.toInt < _ by omega) (lv_cons hl 1 rfl (lv_cons hl 2 rfl (lv_cons hl 0 rfl (lv_nil hl)))) h tfab15_122 ofab15_122 (iv_w izab15_139 (by decide)) jg15_u1_1 jg15_u1_2 isxfab15_9 isyfab15_9 irlfab15_9 irbfab15_9 irrfab15_9 irtfab15_9 imlfab15_9 imbfab15_9 imrfab15_9 imtfab15_9 kab15_123 kab15_124 kab15_125 kab15_126 kab15_127 kab15_128 kab15_135 kab15_136 kab15_137 kab15_138 kab15_129 kab15_130 kab15_131 kab15_132 (show ∃ (vb : Nat → Int32) (vu : Int) (P : Int → Int → Bool) (md : Int), GS G τqa_1 fab15_122 u0 rq mq vb vu P md (Int.toNat (zab15_139.toInt - 1)) from ⟨_, _, _, _, (by rw [show Int.toNat (zab15_139.toInt - 1) = ((Int.toNat (v15_3.toInt - 1)) + (1 : Int32).toInt.toNat) from by have n1_ : (1 : Int32).toInt = 1 := rfl; omega]; exact kab15_133)⟩)
  exact L15 62 ls fa_24 H locs 0 sxfa_24 syfa_24 rlfa_24 rbfa_24 rrfa_24 rtfa_24 mlfa_24 mbfa_24 mrfa_24 mtfa_24 (by decide) (lv_cons hl 2 rfl (lv_cons hl 1 rfl (lv_cons hl 0 rfl (lv_nil hl)))) h tfa_24 ofa_24 ⟨by decide, by decide⟩ isxP10 isyP10 isxfa_24 isyfa_24 irlfa_24 irbfa_24 irrfa_24 irtfa_24 imlfa_24 imbfa_24 imrfa_24 imtfa_24 kg3fa_24 kg2fa_24 ka_32 ka_33 ksxfa_24 ksyfa_24 krlfa_24 krbfa_24 krrfa_24 krtfa_24 kmlfa_24 kmbfa_24 kmrfa_24 kmtfa_24 (show ∃ (vb : Nat → Int32) (vu : Int) (P : Int → Int → Bool) (md : Int), GS G τqa_1 fa_24 u0 rq mq vb vu P md (Int.toNat (0 - 1)) from ⟨_, _, _, _, (by rw [show Int.toNat (0 - 1) = 0 from by have n1_ : (1 : Int32).toInt = 1 := rfl; omega]; exact x0ra_23)⟩)
abbrev rm_s_X10_terms : Room := { frames := 5, cells := 1, slots := 305, locals := 111 }
set_option maxRecDepth 100000 in
set_option maxHeartbeats 4000000 in
theorem s_X10_terms (l : Launch) (D : va_G) (G : Nat → Nat) (b0 : Nat) (τ : Nat → Nat) (f : hM) (t : TI G 9 τ f) (u0 : Nat) (hu0 : τ u0 = 10) (u1 : Nat) (hu1 : τ u1 = 1) (gq rq mq : Nat) (hgq : τ gq = 20) (kq2 : atp f u0 (fd 2 (.ref gq))) (hGJ : GJ τ f gq rq mq) : mQ l yX10_terms cX10_terms 2 (.array .int) rm_s_X10_terms D G b0 f [.ref u0, .ref u1] (fun r f1 => (∃ τ1, Ex τ τ1 ∧ (∃ z, r = some z ∧ τ1 z = 3 ∧ atp f1 u1 (fd 3 (.ref z))) ∧ TI G 9 τ1 f1 ∧ Fr [0, 1, 3, 20, 21, 22, 23, 24, 25, 1004, 20001, 20002, 20007, 20008, 20009, 20010, 20011, 22001, 22002, 22003, 22004, 23001, 23002, 23003, 23004] τ f f1 ∧ (∀ a q, τ a = 1 → atp f a (fd 3 (.ref q)) → atp f1 a (fd 3 (.ref q))) ∧ GJ τ1 f1 gq rq mq)) := by
  refine met2 (own := RX10) (by decide) rfl (Nat.le_of_ble_eq_true rfl) ?_
  intro p e s m args below meth c ls Q hQ C hr hini hl h
  have hl : lv_has ls 2 [(0, .ref u0), (1, .ref u1)] := hl
  obtain ⟨hx, hb, hml, hown, hts, hE0, hlk⟩ := id C
  have o := Fr.rf [0, 1, 3, 20, 21, 22, 23, 24, 25, 1004, 20001, 20002, 20007, 20008, 20009, 20010, 20011, 22001, 22002, 22003, 22004, 23001, 23002, 23003, 23004] τ f
  obtain ⟨oz0, hz0, kz0⟩ := t_fopt (tq := 3) (k := 3) t hu1 (by decide) wf_1 rfl
  refine lv_aload_n hx hb dX10_terms_0 rfl (lv_at hl 1 rfl) ?_
  refine t_getfd C h t hu1 (by decide) wf_1 (v := va_rf oz0) kz0 fl_X10_382 dX10_terms_1 ?_
  rcases va_rfc oz0 with eqa_1 | ⟨qa_1, eqa_1⟩
  · subst eqa_1
    have hl : lv_has ls 2 [(0, .ref u0), (1, .ref u1)] := hl
    show W _ _ _ _ _ _ _ _ _ _ _ _ _ _ _ (F0 m 4 ls [.null])
    refine lv_ifnonnullN hx hb dX10_terms_4 ?_
    refine lv_aload_n hx hb dX10_terms_7 rfl (lv_at hl 1 rfl) ?_
    refine lv_aload_n hx hb dX10_terms_8 rfl (lv_at hl 0 rfl) ?_
    refine t_getfd C h t hu0 (by decide) wf_10 (v := .ref gq) kq2 fl_X10_26 dX10_terms_9 ?_
    refine lv_aload_n hx hb dX10_terms_12 rfl (lv_at hl 1 rfl) ?_
    obtain ⟨_, ra_2⟩ := t_rec t hgq (by decide) wf_20
    refine k_q (r_V C h hl (As := [.ref u1]) (rest := [.ref u1]) (s_X2_tabulated l D G b0 τ f t gq hgq u1 hu1 rq mq hGJ) ra_2 (Cn := RX2) (T := TX2) (N := 11) rfl rfl mk_X2_tabulated w_732 w_733 w_734 w_735 ⟨Nat.le_of_ble_eq_true rfl, Nat.le_of_ble_eq_true rfl⟩ rfl (Nat.le_of_ble_eq_true rfl) ⟨Nat.le_of_ble_eq_true rfl, Nat.le_of_ble_eq_true rfl⟩ rfl dX10_terms_13) h (fun ra_3 fa_4 H locs pa_5 h => ?_)
    obtain ⟨τfa_4, exfa_4, qra_3, tfa_4, ogfa_4, gjfa_4⟩ := pa_5
    have ofa_4 : Fr [0, 1, 3, 20, 21, 22, 23, 24, 25, 1004, 20001, 20002, 20007, 20008, 20009, 20010, 20011, 22001, 22002, 22003, 22004, 23001, 23002, 23003, 23004] τ f fa_4 := Fr.tr o ogfa_4 (by decide) (by decide)
    have ka_6 := atp.fr kq2 ogfa_4 hu0 (by decide)
    have ka_7 := atp.fr kz0 ogfa_4 hu1 (by decide)
    have Ofa_4 : Fr [0, 1, 3, 20, 21, 22, 23, 24, 25, 1004, 20001, 20002, 20007, 20008, 20009, 20010, 20011, 22001, 22002, 22003, 22004, 23001, 23002, 23003, 23004] τ f fa_4 := ofa_4
    have xfa_4 : Ex τ τfa_4 := exfa_4
    have ha_8 : τfa_4 u1 = 1 := Ex.at exfa_4 hu1 (by decide)
    have ha_9 : τfa_4 u0 = 10 := Ex.at exfa_4 hu0 (by decide)
    have ha_10 : τfa_4 gq = 20 := Ex.at exfa_4 hgq (by decide)
    have ofa_4z := Fr.rf [0, 1, 3, 20, 21, 22, 23, 24, 25, 1004, 20001, 20002, 20007, 20008, 20009, 20010, 20011, 22001, 22002, 22003, 22004, 23001, 23002, 23003, 23004] τfa_4 fa_4
    obtain ⟨qa_11, rfl, tqa_11⟩ := qra_3
    refine t_put C h tfa_4 ofa_4z ha_8 (by decide) (by decide) (by decide) wf_1 fw_1 (k := 3) rfl flw_X10_382 (Or.inr ⟨_, _, _, rfl, rfl⟩) (v := .ref qa_11) rfl rfl ⟨some _, rfl, fun q_ h_ => by cases h_; exact tqa_11⟩ dX10_terms_16 (fun fa_12 H locs h tfa_12 ofa_12 hq ha_ hn_ hk_ => ?_)
    have ka_13 := atp.tg ka_6 hq ha_9 (by decide)
    have ka_15 := GJ.tg gjfa_4 hq ha_10 (by decide)
    have ka_16 := ha_
    refine lv_aload_n hx hb dX10_terms_19 rfl (lv_at hl 1 rfl) ?_
    refine t_getfd C h tfa_12 ha_8 (by decide) wf_1 (v := .ref qa_11) ka_16 fl_X10_382 dX10_terms_20 ?_
    exact u_aret C h hr (Or.inr ⟨_, rfl⟩) hQ (v := some qa_11) (⟨τfa_4, xfa_4, ⟨_, rfl, tqa_11, ka_16⟩, tfa_12, (Fr.tr Ofa_4 (Fr.cv xfa_4 ofa_12 (by decide) (fun _ h_ => h_)) (fun _ h_ => h_) (fun _ h_ => h_)), (fun a_ q_ ha9_ h_ => by
        by_cases hz_ : a_ = u1
        · subst hz_; exact (no_null kz0 h_).elim
        · exact (atp.fr h_ ogfa_4 ha9_ (by decide)).tr (hn_ a_ hz_)), ka_15⟩) (Nat.le_of_ble_eq_true rfl) (Nat.le_of_ble_eq_true rfl) rfl dX10_terms_23
  · subst eqa_1
    have tqa_1 : τ qa_1 = 3 := hz0 _ rfl
    have hl : lv_has ls 2 [(0, .ref u0), (1, .ref u1)] := hl
    show W _ _ _ _ _ _ _ _ _ _ _ _ _ _ _ (F0 m 4 ls [.ref qa_1])
    refine lv_ifnonnull (tgt := 19) hx hb dX10_terms_4 (by decide) ?_
    refine lv_aload_n hx hb dX10_terms_19 rfl (lv_at hl 1 rfl) ?_
    refine t_getfd C h t hu1 (by decide) wf_1 (v := .ref qa_1) kz0 fl_X10_382 dX10_terms_20 ?_
    exact u_aret C h hr (Or.inr ⟨_, rfl⟩) hQ (v := some qa_1) (⟨τ, (Ex.rf τ), ⟨_, rfl, tqa_1, kz0⟩, t, o, (fun _ _ _ h_ => h_), hGJ⟩) (Nat.le_of_ble_eq_true rfl) (Nat.le_of_ble_eq_true rfl) rfl dX10_terms_23
abbrev rm_s_X10_termsB : Room := { frames := 0, cells := 0, slots := 0, locals := 0 }
set_option maxRecDepth 100000 in
set_option maxHeartbeats 4000000 in
theorem s_X10_termsB (l : Launch) (D : va_G) (G : Nat → Nat) (b0 : Nat) (τ : Nat → Nat) (f : hM) (t : TI G 9 τ f) (u0 : Nat) (hu0 : τ u0 = 10) (u1 : Nat) (hu1 : τ u1 = 1) (tz : Nat) (htz : τ tz = 3) (k_u1_3 : atp f u1 (fd 3 (.ref tz))) : mQ l yX10_terms cX10_terms 2 (.array .int) rm_s_X10_termsB D G b0 f [.ref u0, .ref u1] (fun r f1 => (∃ z, r = some z ∧ τ z = 3 ∧ atp f1 u1 (fd 3 (.ref z))) ∧ TI G 9 τ f1 ∧ Fr [] τ f f1) := by
  refine met2 (own := RX10) (by decide) rfl (Nat.le_of_ble_eq_true rfl) ?_
  intro p e s m args below meth c ls Q hQ C hr hini hl h
  have hl : lv_has ls 2 [(0, .ref u0), (1, .ref u1)] := hl
  obtain ⟨hx, hb, hml, hown, hts, hE0, hlk⟩ := id C
  have o := Fr.rf [] τ f
  refine lv_aload_n hx hb dX10_terms_0 rfl (lv_at hl 1 rfl) ?_
  refine t_getfd C h t hu1 (by decide) wf_1 (v := .ref tz) k_u1_3 fl_X10_382 dX10_terms_1 ?_
  refine lv_ifnonnull (tgt := 19) hx hb dX10_terms_4 (by decide) ?_
  refine lv_aload_n hx hb dX10_terms_19 rfl (lv_at hl 1 rfl) ?_
  refine t_getfd C h t hu1 (by decide) wf_1 (v := .ref tz) k_u1_3 fl_X10_382 dX10_terms_20 ?_
  exact u_aret C h hr (Or.inr ⟨_, rfl⟩) hQ (v := some tz) (⟨⟨_, rfl, htz, k_u1_3⟩, t, o⟩) (Nat.le_of_ble_eq_true rfl) (Nat.le_of_ble_eq_true rfl) rfl dX10_terms_23
abbrev rm_s_X10_term : Room := { frames := 6, cells := 1, slots := 305, locals := 132 }
set_option maxRecDepth 100000 in
set_option maxHeartbeats 4000000 in
theorem s_X10_term (l : Launch) (D : va_G) (G : Nat → Nat) (b0 : Nat) (τ : Nat → Nat) (f : hM) (t : TI G 9 τ f) (u0 : Nat) (hu0 : τ u0 = 10) (u1 : Nat) (hu1 : τ u1 = 1) (u2 : Int32) (hu2 : iv u2 0 4) (u3 : Int32) (hu3 : iv u3 0 60) (gq rq mq : Nat) (hgq : τ gq = 20) (kq2 : atp f u0 (fd 2 (.ref gq))) (hGJ : GJ τ f gq rq mq) : mI l yX10_term cX10_term 4 (.int) rm_s_X10_term D G b0 f [.ref u0, .ref u1, .int u2, .int u3] (fun r f1 => (∃ τ1, Ex τ τ1 ∧ iv r (-2147483648) 2147483647 ∧ TI G 9 τ1 f1 ∧ Fr [0, 1, 3, 20, 21, 22, 23, 24, 25, 1004, 20001, 20002, 20007, 20008, 20009, 20010, 20011, 22001, 22002, 22003, 22004, 23001, 23002, 23003, 23004] τ f f1 ∧ (∀ a q, τ a = 1 → atp f a (fd 3 (.ref q)) → atp f1 a (fd 3 (.ref q))) ∧ (∃ z, τ1 z = 3 ∧ atp f1 u1 (fd 3 (.ref z))) ∧ GJ τ1 f1 gq rq mq)) := by
  refine met2 (own := RX10) (by decide) rfl (Nat.le_of_ble_eq_true rfl) ?_
  intro p e s m args below meth c ls Q hQ C hr hini hl h
  have hl : lv_has ls 4 [(0, .ref u0), (1, .ref u1), (2, .int u2), (3, .int u3)] := hl
  obtain ⟨hx, hb, hml, hown, hts, hE0, hlk⟩ := id C
  have o := Fr.rf [0, 1, 3, 20, 21, 22, 23, 24, 25, 1004, 20001, 20002, 20007, 20008, 20009, 20010, 20011, 22001, 22002, 22003, 22004, 23001, 23002, 23003, 23004] τ f
  refine lv_aload_n hx hb dX10_term_0 rfl (lv_at hl 0 rfl) ?_
  refine lv_aload_n hx hb dX10_term_1 rfl (lv_at hl 1 rfl) ?_
  obtain ⟨_, ra_1⟩ := t_rec t hu0 (by decide) wf_10
  refine k_q (r_V C h hl (As := [.ref u1]) (rest := []) (s_X10_terms l D G b0 τ f t u0 hu0 u1 hu1 gq rq mq hgq kq2 hGJ) ra_1 (Cn := RX10) (T := TX10) (N := 10) rfl rfl mk_X10_terms w_728 w_730 w_18 w_731 ⟨Nat.le_of_ble_eq_true rfl, Nat.le_of_ble_eq_true rfl⟩ rfl (Nat.le_of_ble_eq_true rfl) ⟨Nat.le_of_ble_eq_true rfl, Nat.le_of_ble_eq_true rfl⟩ rfl dX10_term_2) h (fun ra_2 fa_3 H locs pa_4 h => ?_)
  obtain ⟨τfa_3, exfa_3, qra_2, tfa_3, ogfa_3, x0ra_2, gjfa_3⟩ := pa_4
  have ofa_3 : Fr [0, 1, 3, 20, 21, 22, 23, 24, 25, 1004, 20001, 20002, 20007, 20008, 20009, 20010, 20011, 22001, 22002, 22003, 22004, 23001, 23002, 23003, 23004] τ f fa_3 := Fr.tr o ogfa_3 (by decide) (by decide)
  have ka_5 := atp.fr kq2 ogfa_3 hu0 (by decide)
  have Ofa_3 : Fr [0, 1, 3, 20, 21, 22, 23, 24, 25, 1004, 20001, 20002, 20007, 20008, 20009, 20010, 20011, 22001, 22002, 22003, 22004, 23001, 23002, 23003, 23004] τ f fa_3 := ofa_3
  have xfa_3 : Ex τ τfa_3 := exfa_3
  have ha_6 : τfa_3 u0 = 10 := Ex.at exfa_3 hu0 (by decide)
  have ha_7 : τfa_3 u1 = 1 := Ex.at exfa_3 hu1 (by decide)
  have ha_8 : τfa_3 gq = 20 := Ex.at exfa_3 hgq (by decide)
  have ofa_3z := Fr.rf [0, 1, 3, 20, 21, 22, 23, 24, 25, 1004, 20001, 20002, 20007, 20008, 20009, 20010, 20011, 22001, 22002, 22003, 22004, 23001, 23002, 23003, 23004] τfa_3 fa_3
  obtain ⟨qa_9, rfl, tqa_9, ktqa_9⟩ := qra_2
  refine lv_iload_n hx hb dX10_term_5 rfl (lv_at hl 2 rfl) ?_
  refine lv_bipush (v := 61) hx hb dX10_term_6 (by decide) ?_
  refine i_mulc hx hb dX10_term_8 hu2 (k := 61) rfl (lo := 0) (hi := 244) (by decide) (fun za_10 eza_10 mza_10 iza_10 => ?_)
  refine lv_iload_n hx hb dX10_term_9 rfl (lv_at hl 3 rfl) ?_
  refine i_add hx hb dX10_term_10 iza_10 hu3 (lo := 0) (hi := 304) (by decide) (fun za_11 eza_11 mza_11 iza_11 => ?_)
  refine t_iald C h tfa_3 tqa_9 (by decide) wf_3 (iv_in iza_11 (by decide)) dX10_term_11 (fun za_12 iza_12 => ?_)
  exact u_iret C h hr hQ (⟨τfa_3, xfa_3, iza_12, tfa_3, (Fr.tr Ofa_3 (Fr.cv xfa_3 ofa_3z (by decide) (fun _ h_ => h_)) (fun _ h_ => h_) (fun _ h_ => h_)), x0ra_2, ⟨qa_9, tqa_9, ktqa_9⟩, gjfa_3⟩) (Nat.le_of_ble_eq_true rfl) (Nat.le_of_ble_eq_true rfl) dX10_term_12
abbrev rm_s_X10_termB : Room := { frames := 1, cells := 0, slots := 0, locals := 21 }
set_option maxRecDepth 100000 in
set_option maxHeartbeats 4000000 in
theorem s_X10_termB (l : Launch) (D : va_G) (G : Nat → Nat) (b0 : Nat) (τ : Nat → Nat) (f : hM) (t : TI G 9 τ f) (u0 : Nat) (hu0 : τ u0 = 10) (u1 : Nat) (hu1 : τ u1 = 1) (u2 : Int32) (hu2 : iv u2 0 4) (u3 : Int32) (hu3 : iv u3 0 60) (tz : Nat) (htz : τ tz = 3) (k_u1_3 : atp f u1 (fd 3 (.ref tz))) : mI l yX10_term cX10_term 4 (.int) rm_s_X10_termB D G b0 f [.ref u0, .ref u1, .int u2, .int u3] (fun r f1 => iv r (-2147483648) 2147483647 ∧ TI G 9 τ f1 ∧ Fr [] τ f f1 ∧ (∃ z, τ z = 3 ∧ atp f1 u1 (fd 3 (.ref z)))) := by
  refine met2 (own := RX10) (by decide) rfl (Nat.le_of_ble_eq_true rfl) ?_
  intro p e s m args below meth c ls Q hQ C hr hini hl h
  have hl : lv_has ls 4 [(0, .ref u0), (1, .ref u1), (2, .int u2), (3, .int u3)] := hl
  obtain ⟨hx, hb, hml, hown, hts, hE0, hlk⟩ := id C
  have o := Fr.rf [] τ f
  refine lv_aload_n hx hb dX10_term_0 rfl (lv_at hl 0 rfl) ?_
  refine lv_aload_n hx hb dX10_term_1 rfl (lv_at hl 1 rfl) ?_
  obtain ⟨_, r1⟩ := t_rec t hu0 (by decide) wf_10
  refine k_q (r_V C h hl (As := [.ref u1]) (rest := []) (s_X10_termsB l D G b0 τ f t u0 hu0 u1 hu1 tz htz k_u1_3) r1 (Cn := RX10) (T := TX10) (N := 10) rfl rfl mk_X10_terms w_728 w_730 w_18 w_731 ⟨Nat.le_of_ble_eq_true rfl, Nat.le_of_ble_eq_true rfl⟩ rfl (Nat.le_of_ble_eq_true rfl) ⟨Nat.le_of_ble_eq_true rfl, Nat.le_of_ble_eq_true rfl⟩ rfl dX10_term_2) h (fun r2 f3 H locs p4 h => ?_)
  obtain ⟨qr2, tf3, ogf3⟩ := p4
  have egf3 := Fr.nil2 ogf3
  subst egf3
  obtain ⟨q5, rfl, tq5, ktq5⟩ := qr2
  refine lv_iload_n hx hb dX10_term_5 rfl (lv_at hl 2 rfl) ?_
  refine lv_bipush (v := 61) hx hb dX10_term_6 (by decide) ?_
  refine i_mulc hx hb dX10_term_8 hu2 (k := 61) rfl (lo := 0) (hi := 244) (by decide) (fun z6 ez6 mz6 iz6 => ?_)
  refine lv_iload_n hx hb dX10_term_9 rfl (lv_at hl 3 rfl) ?_
  refine i_add hx hb dX10_term_10 iz6 hu3 (lo := 0) (hi := 304) (by decide) (fun z7 ez7 mz7 iz7 => ?_)
  refine t_iald C h t tq5 (by decide) wf_3 (iv_in iz7 (by decide)) dX10_term_11 (fun z8 iz8 => ?_)
  exact u_iret C h hr hQ (⟨iz8, t, o, ⟨q5, tq5, ktq5⟩⟩) (Nat.le_of_ble_eq_true rfl) (Nat.le_of_ble_eq_true rfl) dX10_term_12
abbrev rm_s_X10_series : Room := { frames := 7, cells := 1, slots := 305, locals := 155 }
set_option maxRecDepth 100000 in
set_option maxHeartbeats 4000000 in
theorem s_X10_series (l : Launch) (D : va_G) (G : Nat → Nat) (b0 : Nat) (τ : Nat → Nat) (f : hM) (t : TI G 9 τ f) (u0 : Nat) (hu0 : τ u0 = 10) (u1 : Int32) (hu1 : iv u1 (-2147483648) 2147483647) (u2 : Int32) (hu2 : iv u2 (-2147483648) 2147483647) (u3 : Int32) (hu3 : iv u3 (-2147483648) 2147483647) (gq rq mq : Nat) (hgq : τ gq = 20) (kq2 : atp f u0 (fd 2 (.ref gq))) (hGJ : GJ τ f gq rq mq) : mI l yX10_series cX10_series 5 (.int) rm_s_X10_series D G b0 f [.ref u0, .int u1, .int u2, .int u3] (fun r f1 => (∃ τ1, Ex τ τ1 ∧ iv r (-2147483648) 2147483647 ∧ TI G 9 τ1 f1 ∧ Fr [0, 1, 3, 20, 21, 22, 23, 24, 25, 1004, 20001, 20002, 20007, 20008, 20009, 20010, 20011, 22001, 22002, 22003, 22004, 23001, 23002, 23003, 23004] τ f f1 ∧ GJ τ1 f1 gq rq mq)) := by
  refine met2 (own := RX10) (by decide) rfl (Nat.le_of_ble_eq_true rfl) ?_
  intro p e s m args below meth c ls Q hQ C hr hini hl h
  have hl : lv_has ls 5 [(0, .ref u0), (1, .int u1), (2, .int u2), (3, .int u3)] := hl
  obtain ⟨hx, hb, hml, hown, hts, hE0, hlk⟩ := id C
  have o := Fr.rf [0, 1, 3, 20, 21, 22, 23, 24, 25, 1004, 20001, 20002, 20007, 20008, 20009, 20010, 20011, 22001, 22002, 22003, 22004, 23001, 23002, 23003, 23004] τ f
  refine lv_aload_n hx hb dX10_series_0 rfl (lv_at hl 0 rfl) ?_
  refine t_getr (tq := 12) C h t hu0 (by decide) wf_10 rfl fl_X10_19 dX10_series_1 (fun qa_1 tqa_1 => ?_)
  refine lv_iload_n hx hb dX10_series_4 rfl (lv_at hl 1 rfl) ?_
  obtain ⟨_, ra_2⟩ := t_rec t tqa_1 (by decide) wf_12
  refine k_q (r_V C h hl (As := [.int u1]) (rest := []) (s_X0_findN l D G b0 τ f t qa_1 tqa_1 u1 hu1) ra_2 (Cn := RX0) (T := TX0) (N := 6) rfl rfl mk_X0_find w_594 w_595 w_596 w_597 ⟨Nat.le_of_ble_eq_true rfl, Nat.le_of_ble_eq_true rfl⟩ rfl (Nat.le_of_ble_eq_true rfl) ⟨Nat.le_of_ble_eq_true rfl, Nat.le_of_ble_eq_true rfl⟩ rfl dX10_series_5) h (fun ra_3 fa_4 H locs pa_5 h => ?_)
  obtain ⟨qra_3, tfa_4, ogfa_4, ocra_3⟩ := pa_5
  have egfa_4 := Fr.nil2 ogfa_4
  subst egfa_4
  have tra_3 := qra_3
  refine lv_astoreO (lv' := [(4, va_rf ra_3), (0, .ref u0), (1, .int u1), (2, .int u2), (3, .int u3)]) hx hb dX10_series_8 hl (by decide) rfl (fun ls hl => ?_)
  refine lv_aloadO hx hb dX10_series_10 (lv_at hl 0 rfl) ?_
  rcases va_rfc ra_3 with eqa_7 | ⟨qa_7, eqa_7⟩
  · subst eqa_7
    have hl : lv_has ls 5 [(4, .null), (0, .ref u0), (1, .int u1), (2, .int u2), (3, .int u3)] := hl
    show W _ _ _ _ _ _ _ _ _ _ _ _ _ _ _ (F0 m 12 ls [.null])
    refine lv_ifnullN (tgt := 29) hx hb dX10_series_12 (by decide) ?_
    refine lv_iconst (v := -1) hx hb dX10_series_29 (by decide) ?_
    exact u_iret C h hr hQ (⟨τ, (Ex.rf τ), ⟨by decide, by decide⟩, t, o, hGJ⟩) (Nat.le_of_ble_eq_true rfl) (Nat.le_of_ble_eq_true rfl) dX10_series_30
  · subst eqa_7
    have tqa_7 : τ qa_7 = 1 := tra_3 _ rfl
    have ia_8 : iv u1 0 7 := ocra_3 _ rfl
    have hl : lv_has ls 5 [(4, .ref qa_7), (0, .ref u0), (1, .int u1), (2, .int u2), (3, .int u3)] := hl
    show W _ _ _ _ _ _ _ _ _ _ _ _ _ _ _ (F0 m 12 ls [.ref qa_7])
    refine lv_ifnull hx hb dX10_series_12 ?_
    refine lv_iload_n hx hb dX10_series_15 rfl (lv_at hl 3 rfl) ?_
    refine k_i (r_S C h hl (As := [.int u2]) (rest := []) (s_X10_isKind l D G b0 τ f t u2 hu2) mk_X10_isKind w_721 w_722 w_723 ⟨Nat.le_of_ble_eq_true rfl, Nat.le_of_ble_eq_true rfl⟩ rfl (Nat.le_of_ble_eq_true rfl) ⟨Nat.le_of_ble_eq_true rfl, Nat.le_of_ble_eq_true rfl⟩ rfl dX10_series_16) h (fun ra_9 fa_10 H locs pa_11 h => ?_)
    obtain ⟨ira_9, tfa_10, ogfa_10, cnra_9⟩ := pa_11
    have egfa_10 := Fr.nil2 ogfa_10
    subst egfa_10
    refine lv_if_eq (tgt := 29) hx hb dX10_series_19 (by decide) (fun ca_12 => ?_) (fun ca_12 => ?_)
    · have ca_13 : ra_9.toInt = 0 := congrArg Int32.toInt ca_12
      have ia_14 : iv ra_9 0 0 := iv_Q ca_13 ira_9 (iv_k (x := 0) (k := 0) rfl) (by decide)
      refine lv_iconst (v := -1) hx hb dX10_series_29 (by decide) ?_
      exact u_iret C h hr hQ (⟨τ, (Ex.rf τ), ⟨by decide, by decide⟩, t, o, hGJ⟩) (Nat.le_of_ble_eq_true rfl) (Nat.le_of_ble_eq_true rfl) dX10_series_30
    · have ca_13 : ra_9.toInt ≠ 0 := fun z_ => ca_12 (Int32.toInt_inj.mp z_)
      have ia_14 : iv ra_9 1 1 := iv_Nl ca_13 ira_9 (by decide)
      have ia_15 := cnra_9 ca_13
      refine lv_iload_n hx hb dX10_series_22 rfl (lv_at hl 4 rfl) ?_
      refine k_i (r_S C h hl (As := [.int u3]) (rest := []) (s_X10_isLength l D G b0 τ f t u3 hu3) mk_X10_isLength w_653 w_654 w_655 ⟨Nat.le_of_ble_eq_true rfl, Nat.le_of_ble_eq_true rfl⟩ rfl (Nat.le_of_ble_eq_true rfl) ⟨Nat.le_of_ble_eq_true rfl, Nat.le_of_ble_eq_true rfl⟩ rfl dX10_series_23) h (fun ra_16 fa_17 H locs pa_18 h => ?_)
      obtain ⟨ira_16, tfa_17, ogfa_17, cnra_16⟩ := pa_18
      have egfa_17 := Fr.nil2 ogfa_17
      subst egfa_17
      refine lv_if_ne (tgt := 31) hx hb dX10_series_26 (by decide) (fun ca_19 => ?_) (fun ca_19 => ?_)
      · have ca_20 : ra_16.toInt ≠ 0 := fun z_ => ca_19 (Int32.toInt_inj.mp z_)
        have ia_21 : iv ra_16 1 1 := iv_Nl ca_20 ira_16 (by decide)
        have ia_22 := cnra_16 ca_20
        refine lv_aload_n hx hb dX10_series_31 rfl (lv_at hl 1 rfl) ?_
        refine lv_aload hx hb dX10_series_32 (lv_at hl 0 rfl) ?_
        refine lv_iload_n hx hb dX10_series_34 rfl (lv_at hl 3 rfl) ?_
        refine lv_iload_n hx hb dX10_series_35 rfl (lv_at hl 4 rfl) ?_
        obtain ⟨_, ra_23⟩ := t_rec t hu0 (by decide) wf_10
        refine k_i (r_V C h hl (As := [.ref qa_7, .int u2, .int u3]) (rest := []) (s_X10_term l D G b0 τ f t u0 hu0 qa_7 tqa_7 u2 ia_15 u3 ia_22 gq rq mq hgq kq2 hGJ) ra_23 (Cn := RX10) (T := TX10) (N := 10) rfl rfl mk_X10_term w_724 w_726 w_17 w_727 ⟨Nat.le_of_ble_eq_true rfl, Nat.le_of_ble_eq_true rfl⟩ rfl (Nat.le_of_ble_eq_true rfl) ⟨Nat.le_of_ble_eq_true rfl, Nat.le_of_ble_eq_true rfl⟩ rfl dX10_series_36) h (fun ra_24 fa_25 H locs pa_26 h => ?_)
        obtain ⟨τfa_25, exfa_25, ira_24, tfa_25, ogfa_25, x0ra_24, ⟨ztfa_25, ttfa_25, ktfa_25⟩, gjfa_25⟩ := pa_26
        have ofa_25 : Fr [0, 1, 3, 20, 21, 22, 23, 24, 25, 1004, 20001, 20002, 20007, 20008, 20009, 20010, 20011, 22001, 22002, 22003, 22004, 23001, 23002, 23003, 23004] τ f fa_25 := Fr.tr o ogfa_25 (by decide) (by decide)
        have ka_27 := atp.fr kq2 ogfa_25 hu0 (by decide)
        have Ofa_25 : Fr [0, 1, 3, 20, 21, 22, 23, 24, 25, 1004, 20001, 20002, 20007, 20008, 20009, 20010, 20011, 22001, 22002, 22003, 22004, 23001, 23002, 23003, 23004] τ f fa_25 := ofa_25
        have xfa_25 : Ex τ τfa_25 := exfa_25
        have ha_28 : τfa_25 u0 = 10 := Ex.at exfa_25 hu0 (by decide)
        have ha_29 : τfa_25 qa_7 = 1 := Ex.at exfa_25 tqa_7 (by decide)
        have ha_30 : τfa_25 gq = 20 := Ex.at exfa_25 hgq (by decide)
        have ofa_25z := Fr.rf [0, 1, 3, 20, 21, 22, 23, 24, 25, 1004, 20001, 20002, 20007, 20008, 20009, 20010, 20011, 22001, 22002, 22003, 22004, 23001, 23002, 23003, 23004] τfa_25 fa_25
        exact u_iret C h hr hQ (⟨τfa_25, xfa_25, ira_24, tfa_25, (Fr.tr Ofa_25 (Fr.cv xfa_25 ofa_25z (by decide) (fun _ h_ => h_)) (fun _ h_ => h_) (fun _ h_ => h_)), gjfa_25⟩) (Nat.le_of_ble_eq_true rfl) (Nat.le_of_ble_eq_true rfl) dX10_series_39
      · have ca_20 : ra_16.toInt = 0 := congrArg Int32.toInt ca_19
        have ia_21 : iv ra_16 0 0 := iv_Q ca_20 ira_16 (iv_k (x := 0) (k := 0) rfl) (by decide)
        refine lv_iconst (v := -1) hx hb dX10_series_29 (by decide) ?_
        exact u_iret C h hr hQ (⟨τ, (Ex.rf τ), ⟨by decide, by decide⟩, t, o, hGJ⟩) (Nat.le_of_ble_eq_true rfl) (Nat.le_of_ble_eq_true rfl) dX10_series_30
abbrev rm_s_X10_ratio : Room := { frames := 7, cells := 1, slots := 305, locals := 155 }
set_option maxRecDepth 100000 in
set_option maxHeartbeats 4000000 in
theorem s_X10_ratio (l : Launch) (D : va_G) (G : Nat → Nat) (b0 : Nat) (τ : Nat → Nat) (f : hM) (t : TI G 9 τ f) (u0 : Nat) (hu0 : τ u0 = 10) (u1 : Int32) (hu1 : iv u1 (-2147483648) 2147483647) (u2 : Int32) (hu2 : iv u2 (-2147483648) 2147483647) (u3 : Int32) (hu3 : iv u3 (-2147483648) 2147483647) (gq rq mq : Nat) (hgq : τ gq = 20) (kq2 : atp f u0 (fd 2 (.ref gq))) (hGJ : GJ τ f gq rq mq) : mI l yX10_ratio cX10_ratio 6 (.int) rm_s_X10_ratio D G b0 f [.ref u0, .int u1, .int u2, .int u3] (fun r f1 => (∃ τ1, Ex τ τ1 ∧ iv r (-1000002) 1000002 ∧ TI G 9 τ1 f1 ∧ Fr [0, 1, 3, 20, 21, 22, 23, 24, 25, 1004, 20001, 20002, 20007, 20008, 20009, 20010, 20011, 22001, 22002, 22003, 22004, 23001, 23002, 23003, 23004] τ f f1 ∧ GJ τ1 f1 gq rq mq)) := by
  refine met2 (own := RX10) (by decide) rfl (Nat.le_of_ble_eq_true rfl) ?_
  intro p e s m args below meth c ls Q hQ C hr hini hl h
  have hl : lv_has ls 6 [(0, .ref u0), (1, .int u1), (2, .int u2), (3, .int u3)] := hl
  obtain ⟨hx, hb, hml, hown, hts, hE0, hlk⟩ := id C
  have o := Fr.rf [0, 1, 3, 20, 21, 22, 23, 24, 25, 1004, 20001, 20002, 20007, 20008, 20009, 20010, 20011, 22001, 22002, 22003, 22004, 23001, 23002, 23003, 23004] τ f
  refine lv_aload_n hx hb dX10_ratio_0 rfl (lv_at hl 0 rfl) ?_
  refine t_getr (tq := 12) C h t hu0 (by decide) wf_10 rfl fl_X10_19 dX10_ratio_1 (fun qa_1 tqa_1 => ?_)
  refine lv_iload_n hx hb dX10_ratio_4 rfl (lv_at hl 1 rfl) ?_
  obtain ⟨_, ra_2⟩ := t_rec t tqa_1 (by decide) wf_12
  refine k_q (r_V C h hl (As := [.int u1]) (rest := []) (s_X0_findN l D G b0 τ f t qa_1 tqa_1 u1 hu1) ra_2 (Cn := RX0) (T := TX0) (N := 6) rfl rfl mk_X0_find w_594 w_595 w_596 w_597 ⟨Nat.le_of_ble_eq_true rfl, Nat.le_of_ble_eq_true rfl⟩ rfl (Nat.le_of_ble_eq_true rfl) ⟨Nat.le_of_ble_eq_true rfl, Nat.le_of_ble_eq_true rfl⟩ rfl dX10_ratio_5) h (fun ra_3 fa_4 H locs pa_5 h => ?_)
  obtain ⟨qra_3, tfa_4, ogfa_4, ocra_3⟩ := pa_5
  have egfa_4 := Fr.nil2 ogfa_4
  subst egfa_4
  have tra_3 := qra_3
  refine lv_astoreO (lv' := [(4, va_rf ra_3), (0, .ref u0), (1, .int u1), (2, .int u2), (3, .int u3)]) hx hb dX10_ratio_8 hl (by decide) rfl (fun ls hl => ?_)
  refine lv_aloadO hx hb dX10_ratio_10 (lv_at hl 0 rfl) ?_
  rcases va_rfc ra_3 with eqa_7 | ⟨qa_7, eqa_7⟩
  · subst eqa_7
    have hl : lv_has ls 6 [(4, .null), (0, .ref u0), (1, .int u1), (2, .int u2), (3, .int u3)] := hl
    show W _ _ _ _ _ _ _ _ _ _ _ _ _ _ _ (F0 m 12 ls [.null])
    refine lv_ifnullN (tgt := 32) hx hb dX10_ratio_12 (by decide) ?_
    refine lv_iconst (v := -1) hx hb dX10_ratio_32 (by decide) ?_
    exact u_iret C h hr hQ (⟨τ, (Ex.rf τ), ⟨by decide, by decide⟩, t, o, hGJ⟩) (Nat.le_of_ble_eq_true rfl) (Nat.le_of_ble_eq_true rfl) dX10_ratio_33
  · subst eqa_7
    have tqa_7 : τ qa_7 = 1 := tra_3 _ rfl
    have ia_8 : iv u1 0 7 := ocra_3 _ rfl
    have hl : lv_has ls 6 [(4, .ref qa_7), (0, .ref u0), (1, .int u1), (2, .int u2), (3, .int u3)] := hl
    show W _ _ _ _ _ _ _ _ _ _ _ _ _ _ _ (F0 m 12 ls [.ref qa_7])
    refine lv_ifnull hx hb dX10_ratio_12 ?_
    refine lv_iload_n hx hb dX10_ratio_15 rfl (lv_at hl 3 rfl) ?_
    refine k_i (r_S C h hl (As := [.int u2]) (rest := []) (s_X10_isKind l D G b0 τ f t u2 hu2) mk_X10_isKind w_721 w_722 w_723 ⟨Nat.le_of_ble_eq_true rfl, Nat.le_of_ble_eq_true rfl⟩ rfl (Nat.le_of_ble_eq_true rfl) ⟨Nat.le_of_ble_eq_true rfl, Nat.le_of_ble_eq_true rfl⟩ rfl dX10_ratio_16) h (fun ra_9 fa_10 H locs pa_11 h => ?_)
    obtain ⟨ira_9, tfa_10, ogfa_10, cnra_9⟩ := pa_11
    have egfa_10 := Fr.nil2 ogfa_10
    subst egfa_10
    refine lv_if_eq (tgt := 32) hx hb dX10_ratio_19 (by decide) (fun ca_12 => ?_) (fun ca_12 => ?_)
    · have ca_13 : ra_9.toInt = 0 := congrArg Int32.toInt ca_12
      have ia_14 : iv ra_9 0 0 := iv_Q ca_13 ira_9 (iv_k (x := 0) (k := 0) rfl) (by decide)
      refine lv_iconst (v := -1) hx hb dX10_ratio_32 (by decide) ?_
      exact u_iret C h hr hQ (⟨τ, (Ex.rf τ), ⟨by decide, by decide⟩, t, o, hGJ⟩) (Nat.le_of_ble_eq_true rfl) (Nat.le_of_ble_eq_true rfl) dX10_ratio_33
    · have ca_13 : ra_9.toInt ≠ 0 := fun z_ => ca_12 (Int32.toInt_inj.mp z_)
      have ia_14 : iv ra_9 1 1 := iv_Nl ca_13 ira_9 (by decide)
      have ia_15 := cnra_9 ca_13
      refine lv_iload_n hx hb dX10_ratio_22 rfl (lv_at hl 4 rfl) ?_
      refine lv_iconst (v := 1) hx hb dX10_ratio_23 (by decide) ?_
      refine lv_bipush (v := 60) hx hb dX10_ratio_24 (by decide) ?_
      refine k_i (r_S C h hl (As := [.int u3, .int 1, .int 60]) (rest := []) (s_X10_within l D G b0 τ f t u3 hu3 1 (iv_w (iv_k (x := 1) (k := 1) rfl) (by decide)) 60 (iv_w (iv_k (x := 60) (k := 60) rfl) (by decide))) mk_X10_within w_425 w_426 w_427 ⟨Nat.le_of_ble_eq_true rfl, Nat.le_of_ble_eq_true rfl⟩ rfl (Nat.le_of_ble_eq_true rfl) ⟨Nat.le_of_ble_eq_true rfl, Nat.le_of_ble_eq_true rfl⟩ rfl dX10_ratio_26) h (fun ra_16 fa_17 H locs pa_18 h => ?_)
      have na_19 : (1 : Int32).toInt = 1 := rfl
      have na_20 : (60 : Int32).toInt = 60 := rfl
      obtain ⟨ira_16, tfa_17, ogfa_17, cnra_16, czra_16⟩ := pa_18
      have egfa_17 := Fr.nil2 ogfa_17
      subst egfa_17
      refine lv_if_ne (tgt := 34) hx hb dX10_ratio_29 (by decide) (fun ca_21 => ?_) (fun ca_21 => ?_)
      · have ca_22 : ra_16.toInt ≠ 0 := fun z_ => ca_21 (Int32.toInt_inj.mp z_)
        have ia_23 : iv ra_16 1 1 := iv_Nl ca_22 ira_16 (by decide)
        obtain ⟨ia_24, ia_25⟩ := cnra_16 ca_22
        have ia_26 : iv u3 1 60 := ⟨by omega, by omega⟩
        refine lv_aload_n hx hb dX10_ratio_34 rfl (lv_at hl 1 rfl) ?_
        refine lv_aload hx hb dX10_ratio_35 (lv_at hl 0 rfl) ?_
        refine lv_iload_n hx hb dX10_ratio_37 rfl (lv_at hl 3 rfl) ?_
        refine lv_iload_n hx hb dX10_ratio_38 rfl (lv_at hl 4 rfl) ?_
        refine lv_iconst (v := 1) hx hb dX10_ratio_39 (by decide) ?_
        refine i_subk hx hb dX10_ratio_40 ia_26 (k := 1) rfl (lo := 0) (hi := 59) (by decide) (fun za_27 eza_27 mza_27 iza_27 => ?_)
        obtain ⟨_, ra_28⟩ := t_rec t hu0 (by decide) wf_10
        refine k_i (r_V C h hl (As := [.ref qa_7, .int u2, .int za_27]) (rest := []) (s_X10_term l D G b0 τ f t u0 hu0 qa_7 tqa_7 u2 ia_15 za_27 (iv_w iza_27 (by decide)) gq rq mq hgq kq2 hGJ) ra_28 (Cn := RX10) (T := TX10) (N := 10) rfl rfl mk_X10_term w_724 w_726 w_17 w_727 ⟨Nat.le_of_ble_eq_true rfl, Nat.le_of_ble_eq_true rfl⟩ rfl (Nat.le_of_ble_eq_true rfl) ⟨Nat.le_of_ble_eq_true rfl, Nat.le_of_ble_eq_true rfl⟩ rfl dX10_ratio_41) h (fun ra_29 fa_30 H locs pa_31 h => ?_)
        obtain ⟨τfa_30, exfa_30, ira_29, tfa_30, ogfa_30, x0ra_29, ⟨ztfa_30, ttfa_30, ktfa_30⟩, gjfa_30⟩ := pa_31
        have ofa_30 : Fr [0, 1, 3, 20, 21, 22, 23, 24, 25, 1004, 20001, 20002, 20007, 20008, 20009, 20010, 20011, 22001, 22002, 22003, 22004, 23001, 23002, 23003, 23004] τ f fa_30 := Fr.tr o ogfa_30 (by decide) (by decide)
        have ka_32 := atp.fr kq2 ogfa_30 hu0 (by decide)
        have Ofa_30 : Fr [0, 1, 3, 20, 21, 22, 23, 24, 25, 1004, 20001, 20002, 20007, 20008, 20009, 20010, 20011, 22001, 22002, 22003, 22004, 23001, 23002, 23003, 23004] τ f fa_30 := ofa_30
        have xfa_30 : Ex τ τfa_30 := exfa_30
        have ha_33 : τfa_30 u0 = 10 := Ex.at exfa_30 hu0 (by decide)
        have ha_34 : τfa_30 qa_7 = 1 := Ex.at exfa_30 tqa_7 (by decide)
        have ha_35 : τfa_30 gq = 20 := Ex.at exfa_30 hgq (by decide)
        have ofa_30z := Fr.rf [0, 1, 3, 20, 21, 22, 23, 24, 25, 1004, 20001, 20002, 20007, 20008, 20009, 20010, 20011, 22001, 22002, 22003, 22004, 23001, 23002, 23003, 23004] τfa_30 fa_30
        refine lv_istore (lv' := [(5, .int ra_29), (4, .ref qa_7), (0, .ref u0), (1, .int u1), (2, .int u2), (3, .int u3)]) hx hb dX10_ratio_44 hl (by decide) rfl (fun ls hl => ?_)
        refine lv_iload hx hb dX10_ratio_46 (lv_at hl 0 rfl) ?_
        refine lv_if_ne (tgt := 55) hx hb dX10_ratio_48 (by decide) (fun ca_36 => ?_) (fun ca_36 => ?_)
        · have ca_37 : ra_29.toInt ≠ 0 := fun z_ => ca_36 (Int32.toInt_inj.mp z_)
          refine lv_aload_n hx hb dX10_ratio_55 rfl (lv_at hl 2 rfl) ?_
          refine lv_aload hx hb dX10_ratio_56 (lv_at hl 1 rfl) ?_
          refine lv_iload_n hx hb dX10_ratio_58 rfl (lv_at hl 4 rfl) ?_
          refine lv_iload_n hx hb dX10_ratio_59 rfl (lv_at hl 5 rfl) ?_
          obtain ⟨_, ra_38⟩ := t_rec tfa_30 ha_33 (by decide) wf_10
          refine k_i (r_V C h hl (As := [.ref qa_7, .int u2, .int u3]) (rest := []) (s_X10_termB l D G b0 τfa_30 fa_30 tfa_30 u0 ha_33 qa_7 ha_34 u2 ia_15 u3 (iv_w ia_26 (by decide)) ztfa_30 ttfa_30 ktfa_30) ra_38 (Cn := RX10) (T := TX10) (N := 10) rfl rfl mk_X10_term w_724 w_726 w_17 w_727 ⟨Nat.le_of_ble_eq_true rfl, Nat.le_of_ble_eq_true rfl⟩ rfl (Nat.le_of_ble_eq_true rfl) ⟨Nat.le_of_ble_eq_true rfl, Nat.le_of_ble_eq_true rfl⟩ rfl dX10_ratio_60) h (fun ra_39 fa_40 H locs pa_41 h => ?_)
          obtain ⟨ira_39, tfa_40, ogfa_40, ⟨ztfa_40, ttfa_40, ktfa_40⟩⟩ := pa_41
          have egfa_40 := Fr.nil2 ogfa_40
          subst egfa_40
          refine lv_i2l hx hb dX10_ratio_63 rfl (i_topL ira_39 (fun wa_42 ewa_42 mwa_42 iwa_42 => ?_))
          refine lv_iload hx hb dX10_ratio_64 (lv_at hl 0 rfl) ?_
          refine k_i (r_S C h hl (As := [.int ra_29]) (rest := [.long wa_42]) (s_X10_inverse l D G b0 τfa_30 fa_30 tfa_30 ra_29 ira_29) mk_X10_inverse w_821 w_810 w_811 ⟨Nat.le_of_ble_eq_true rfl, Nat.le_of_ble_eq_true rfl⟩ rfl (Nat.le_of_ble_eq_true rfl) ⟨Nat.le_of_ble_eq_true rfl, Nat.le_of_ble_eq_true rfl⟩ rfl dX10_ratio_66) h (fun ra_43 fa_44 H locs pa_45 h => ?_)
          obtain ⟨ira_43, tfa_44, ogfa_44⟩ := pa_45
          have egfa_44 := Fr.nil2 ogfa_44
          subst egfa_44
          refine lv_i2l hx hb dX10_ratio_69 rfl (i_topL ira_43 (fun wa_46 ewa_46 mwa_46 iwa_46 => ?_))
          refine k_i (r_S C h hl (As := [.long wa_42, .long wa_46]) (rest := []) (s_X10_times l D G b0 τfa_30 fa_30 tfa_30 wa_42 wa_46) mk_X10_times w_822 w_807 w_808 ⟨Nat.le_of_ble_eq_true rfl, Nat.le_of_ble_eq_true rfl⟩ rfl (Nat.le_of_ble_eq_true rfl) ⟨Nat.le_of_ble_eq_true rfl, Nat.le_of_ble_eq_true rfl⟩ rfl dX10_ratio_70) h (fun ra_47 fa_48 H locs pa_49 h => ?_)
          obtain ⟨ira_47, tfa_48, ogfa_48⟩ := pa_49
          have egfa_48 := Fr.nil2 ogfa_48
          subst egfa_48
          exact u_iret C h hr hQ (⟨τfa_30, xfa_30, ira_47, tfa_30, (Fr.tr Ofa_30 (Fr.cv xfa_30 ofa_30z (by decide) (fun _ h_ => h_)) (fun _ h_ => h_) (fun _ h_ => h_)), gjfa_30⟩) (Nat.le_of_ble_eq_true rfl) (Nat.le_of_ble_eq_true rfl) dX10_ratio_73
        · have ca_37 : ra_29.toInt = 0 := congrArg Int32.toInt ca_36
          have ia_38 : iv ra_29 0 0 := iv_Q ca_37 ira_29 (iv_k (x := 0) (k := 0) rfl) (by decide)
          refine lv_iconst (v := -1) hx hb dX10_ratio_51 (by decide) ?_
          refine lv_goto (tgt := 73) hx hb dX10_ratio_52 (by decide) ?_
          exact u_iret C h hr hQ (⟨τfa_30, xfa_30, ⟨by decide, by decide⟩, tfa_30, (Fr.tr Ofa_30 (Fr.cv xfa_30 ofa_30z (by decide) (fun _ h_ => h_)) (fun _ h_ => h_) (fun _ h_ => h_)), gjfa_30⟩) (Nat.le_of_ble_eq_true rfl) (Nat.le_of_ble_eq_true rfl) dX10_ratio_73
      · have ca_22 : ra_16.toInt = 0 := congrArg Int32.toInt ca_21
        have ia_23 : iv ra_16 0 0 := iv_Q ca_22 ira_16 (iv_k (x := 0) (k := 0) rfl) (by decide)
        have ia_24 := czra_16 ca_22
        refine lv_iconst (v := -1) hx hb dX10_ratio_32 (by decide) ?_
        exact u_iret C h hr hQ (⟨τ, (Ex.rf τ), ⟨by decide, by decide⟩, t, o, hGJ⟩) (Nat.le_of_ble_eq_true rfl) (Nat.le_of_ble_eq_true rfl) dX10_ratio_33
abbrev rm_s_X10_isHalfEnough : Room := { frames := 6, cells := 1, slots := 305, locals := 132 }
set_option maxRecDepth 100000 in
set_option maxHeartbeats 4000000 in
theorem s_X10_isHalfEnough (l : Launch) (D : va_G) (G : Nat → Nat) (b0 : Nat) (τ : Nat → Nat) (f : hM) (t : TI G 9 τ f) (u0 : Nat) (hu0 : τ u0 = 10) (u1 : Nat) (hu1 : τ u1 = 1) (u2 : Int32) (hu2 : iv u2 (-2147483648) 2147483647) (gq rq mq : Nat) (hgq : τ gq = 20) (kq2 : atp f u0 (fd 2 (.ref gq))) (hGJ : GJ τ f gq rq mq) : mI l yX10_isHalfEnough cX10_isHalfEnough 5 (.boolean) rm_s_X10_isHalfEnough D G b0 f [.ref u0, .ref u1, .int u2] (fun r f1 => (∃ τ1, Ex τ τ1 ∧ iv r 0 1 ∧ TI G 9 τ1 f1 ∧ Fr [0, 1, 3, 20, 21, 22, 23, 24, 25, 1004, 20001, 20002, 20007, 20008, 20009, 20010, 20011, 22001, 22002, 22003, 22004, 23001, 23002, 23003, 23004] τ f f1 ∧ GJ τ1 f1 gq rq mq)) := by
  refine met2 (own := RX10) (by decide) rfl (Nat.le_of_ble_eq_true rfl) ?_
  intro p e s m args below meth c ls Q hQ C hr hini hl h
  have hl : lv_has ls 5 [(0, .ref u0), (1, .ref u1), (2, .int u2)] := hl
  obtain ⟨hx, hb, hml, hown, hts, hE0, hlk⟩ := id C
  have o := Fr.rf [0, 1, 3, 20, 21, 22, 23, 24, 25, 1004, 20001, 20002, 20007, 20008, 20009, 20010, 20011, 22001, 22002, 22003, 22004, 23001, 23002, 23003, 23004] τ f
  refine lv_aload_n hx hb dX10_isHalfEnough_0 rfl (lv_at hl 0 rfl) ?_
  refine lv_aload_n hx hb dX10_isHalfEnough_1 rfl (lv_at hl 1 rfl) ?_
  obtain ⟨_, ra_1⟩ := t_rec t hu0 (by decide) wf_10
  refine k_q (r_V C h hl (As := [.ref u1]) (rest := []) (s_X10_terms l D G b0 τ f t u0 hu0 u1 hu1 gq rq mq hgq kq2 hGJ) ra_1 (Cn := RX10) (T := TX10) (N := 10) rfl rfl mk_X10_terms w_728 w_730 w_18 w_731 ⟨Nat.le_of_ble_eq_true rfl, Nat.le_of_ble_eq_true rfl⟩ rfl (Nat.le_of_ble_eq_true rfl) ⟨Nat.le_of_ble_eq_true rfl, Nat.le_of_ble_eq_true rfl⟩ rfl dX10_isHalfEnough_2) h (fun ra_2 fa_3 H locs pa_4 h => ?_)
  obtain ⟨τfa_3, exfa_3, qra_2, tfa_3, ogfa_3, x0ra_2, gjfa_3⟩ := pa_4
  have ofa_3 : Fr [0, 1, 3, 20, 21, 22, 23, 24, 25, 1004, 20001, 20002, 20007, 20008, 20009, 20010, 20011, 22001, 22002, 22003, 22004, 23001, 23002, 23003, 23004] τ f fa_3 := Fr.tr o ogfa_3 (by decide) (by decide)
  have ka_5 := atp.fr kq2 ogfa_3 hu0 (by decide)
  have Ofa_3 : Fr [0, 1, 3, 20, 21, 22, 23, 24, 25, 1004, 20001, 20002, 20007, 20008, 20009, 20010, 20011, 22001, 22002, 22003, 22004, 23001, 23002, 23003, 23004] τ f fa_3 := ofa_3
  have xfa_3 : Ex τ τfa_3 := exfa_3
  have ha_6 : τfa_3 u0 = 10 := Ex.at exfa_3 hu0 (by decide)
  have ha_7 : τfa_3 u1 = 1 := Ex.at exfa_3 hu1 (by decide)
  have ha_8 : τfa_3 gq = 20 := Ex.at exfa_3 hgq (by decide)
  have ofa_3z := Fr.rf [0, 1, 3, 20, 21, 22, 23, 24, 25, 1004, 20001, 20002, 20007, 20008, 20009, 20010, 20011, 22001, 22002, 22003, 22004, 23001, 23002, 23003, 23004] τfa_3 fa_3
  obtain ⟨qa_9, rfl, tqa_9, ktqa_9⟩ := qra_2
  refine lv_astore_n (lv' := [(3, .ref qa_9), (0, .ref u0), (1, .ref u1), (2, .int u2)]) hx hb dX10_isHalfEnough_5 rfl hl (by decide) rfl (fun ls hl => ?_)
  refine lv_aload_n hx hb dX10_isHalfEnough_6 rfl (lv_at hl 1 rfl) ?_
  refine t_getfd C h tfa_3 ha_6 (by decide) wf_10 (v := .ref gq) ka_5 fl_X10_26 dX10_isHalfEnough_7 ?_
  refine lv_aload_n hx hb dX10_isHalfEnough_10 rfl (lv_at hl 2 rfl) ?_
  refine lv_iconst (v := 0) hx hb dX10_isHalfEnough_11 (by decide) ?_
  refine lv_iload_n hx hb dX10_isHalfEnough_12 rfl (lv_at hl 3 rfl) ?_
  obtain ⟨wqP13, twP13, kwP13⟩ := t_fref (tq := 2) (k := 0) tfa_3 ha_7 (by decide) wf_1 rfl
  obtain ⟨sxP13, isxP13, kxP13⟩ := t_fint (k := 1) tfa_3 ha_7 (by decide) wf_1 rfl
  obtain ⟨syP13, isyP13, kyP13⟩ := t_fint (k := 2) tfa_3 ha_7 (by decide) wf_1 rfl
  obtain ⟨wwP13, krP13, hwP13⟩ := ia_get tfa_3 twP13 (by decide) wf_2
  obtain ⟨_, ra_10⟩ := t_rec tfa_3 ha_8 (by decide) wf_20
  refine k_v (r_V C h hl (As := [.ref u1, .int 0, .int u2]) (rest := []) (s_X2_open l D G b0 τfa_3 fa_3 tfa_3 gq ha_8 u1 ha_7 0 (iv_w (iv_k (x := 0) (k := 0) rfl) (by decide)) u2 hu2 wqP13 twP13 kwP13 sxP13 isxP13 kxP13 syP13 isyP13 kyP13 rq mq gjfa_3 wwP13 krP13 (row10 wwP13 sxP13 syP13) 0 (row10_in hwP13)) ra_10 (Cn := RX2) (T := TX2) (N := 11) rfl rfl mk_X2_open w_762 w_664 w_665 w_666 ⟨Nat.le_of_ble_eq_true rfl, Nat.le_of_ble_eq_true rfl⟩ rfl (Nat.le_of_ble_eq_true rfl) ⟨Nat.le_of_ble_eq_true rfl, Nat.le_of_ble_eq_true rfl⟩ rfl dX10_isHalfEnough_13) h (fun fa_12 H locs pa_13 h => ?_)
  have na_14 : (0 : Int32).toInt = 0 := rfl
  obtain ⟨tfa_12, ogfa_12, x0ra_11, gjfa_12⟩ := pa_13
  have ofa_12 : Fr [0, 1, 3, 20, 21, 22, 23, 24, 25, 1004, 20001, 20002, 20007, 20008, 20009, 20010, 20011, 22001, 22002, 22003, 22004, 23001, 23002, 23003, 23004] τfa_3 fa_3 fa_12 := Fr.tr ofa_3z ogfa_12 (by decide) (by decide)
  have ka_15 := atp.fr ka_5 ogfa_12 ha_6 (by decide)
  have ka_16 := atp.fr ktqa_9 ogfa_12 ha_7 (by decide)
  have ka_17 := atp.fr kwP13 ogfa_12 ha_7 (by decide)
  have ka_18 := atp.fr krP13 ogfa_12 twP13 (by decide)
  have ka_19 := atp.fr kxP13 ogfa_12 ha_7 (by decide)
  have ka_20 := atp.fr kyP13 ogfa_12 ha_7 (by decide)
  refine lv_iconst (v := 0) hx hb dX10_isHalfEnough_16 (by decide) ?_
  refine lv_istore (lv' := [(4, .int 0), (3, .ref qa_9), (0, .ref u0), (1, .ref u1), (2, .int u2)]) hx hb dX10_isHalfEnough_17 hl (by decide) rfl (fun ls hl => ?_)
  have L19 : ∀ (n19 : Nat) (ls : Array Slot) (f_19 : hM) (H : Heap) (locs : List Loc) (v19_4 : Int32), 13 - v19_4.toInt < (n19 : Int) → lv_has ls 5 [(0, .ref u0), (3, .ref qa_9), (4, .int v19_4)] → hw D b0 s.heap f_19 H locs → TI G 9 τfa_3 f_19 → Fr [0, 1, 3, 20, 21, 22, 23, 24, 25, 1004, 20001, 20002, 20007, 20008, 20009, 20010, 20011, 22001, 22002, 22003, 22004, 23001, 23002, 23003, 23004] τfa_3 fa_3 f_19 → iv v19_4 0 13 → iv sxP13 0 9 → iv syP13 0 9 → atp f_19 u0 (fd 2 (.ref gq)) → atp f_19 u1 (fd 3 (.ref qa_9)) → atp f_19 u1 (fd 1 (.int sxP13)) → atp f_19 u1 (fd 2 (.int syP13)) → GJ τfa_3 f_19 gq rq mq → (∃ (vb : Nat → Int32) (vu : Int) (P : Int → Int → Bool) (md : Int), GS G τfa_3 f_19 gq rq mq vb vu P md (Int.toNat (v19_4.toInt - 0))) → W p l e rm_s_X10_isHalfEnough s m args below meth c H locs 1 305 Q (F0 m 19 ls []) := by
    intro n19
    induction n19 with
    | zero => intro ls f_19 H locs v19_4 hm19 hl h t_19 o_19 iv19_4 jg19_u1_1 jg19_u1_2 k19_u0_2 k19_u1_3 k19_u1_1 k19_u1_2 k19_gq_GJ hv19_0; exact absurd hm19 (by omega)
    | succ n19 ih19 =>
      intro ls f_19 H locs v19_4 hm19 hl h t_19 o_19 iv19_4 jg19_u1_1 jg19_u1_2 k19_u0_2 k19_u1_3 k19_u1_1 k19_u1_2 k19_gq_GJ hv19_0
      refine lv_iload hx hb dX10_isHalfEnough_19 (lv_at hl 2 rfl) ?_
      refine lv_bipush (v := 12) hx hb dX10_isHalfEnough_21 (by decide) ?_
      refine lv_icmp_gt (tgt := 56) hx hb dX10_isHalfEnough_23 (by decide) (fun cab19_1 => ?_) (fun cab19_1 => ?_)
      · have cab19_2 : 12 < v19_4.toInt := Int32.lt_iff_toInt_lt.mp cab19_1
        have iab19_3 : iv v19_4 13 13 := iv_Lr cab19_2 (iv_k (x := 12) (k := 12) rfl) iv19_4 (by decide)
        refine lv_iconst (v := 1) hx hb dX10_isHalfEnough_56 (by decide) ?_
        exact u_zret C h hr hQ ⟨by decide, by decide⟩ (⟨τfa_3, xfa_3, ⟨by decide, by decide⟩, t_19, (Fr.tr Ofa_3 (Fr.cv xfa_3 o_19 (by decide) (fun _ h_ => h_)) (fun _ h_ => h_) (fun _ h_ => h_)), k19_gq_GJ⟩) (Nat.le_of_ble_eq_true rfl) (Nat.le_of_ble_eq_true rfl) dX10_isHalfEnough_57
      · have cab19_2 : v19_4.toInt ≤ 12 := Int32.le_iff_toInt_le.mp (iv_nlt cab19_1)
        have iab19_3 : iv v19_4 0 12 := iv_El cab19_2 iv19_4 (iv_k (x := 12) (k := 12) rfl) (by decide)
        obtain ⟨vb_, vu_, P_, md_, hgs_⟩ := hv19_0
        refine lv_aload_n hx hb dX10_isHalfEnough_26 rfl (lv_at hl 0 rfl) ?_
        refine t_getfd C h t_19 ha_6 (by decide) wf_10 (v := .ref gq) k19_u0_2 fl_X10_26 dX10_isHalfEnough_27 ?_
        obtain ⟨_, rab19_4⟩ := t_rec t_19 ha_8 (by decide) wf_20
        refine k_i (r_V C h hl (As := []) (rest := []) (s_X2_total l D G b0 τfa_3 f_19 t_19 gq ha_8 rq mq k19_gq_GJ) rab19_4 (Cn := RX2) (T := TX2) (N := 11) rfl rfl mk_X2_total w_1014 w_737 w_738 w_739 ⟨Nat.le_of_ble_eq_true rfl, Nat.le_of_ble_eq_true rfl⟩ rfl (Nat.le_of_ble_eq_true rfl) ⟨Nat.le_of_ble_eq_true rfl, Nat.le_of_ble_eq_true rfl⟩ rfl dX10_isHalfEnough_30) h (fun rab19_5 fab19_6 H locs pab19_7 h => ?_)
        obtain ⟨irab19_5, tfab19_6, ogfab19_6⟩ := pab19_7
        have egfab19_6 := Fr.nil2 ogfab19_6
        subst egfab19_6
        refine lv_aload_n hx hb dX10_isHalfEnough_33 rfl (lv_at hl 1 rfl) ?_
        refine lv_iload hx hb dX10_isHalfEnough_34 (lv_at hl 2 rfl) ?_
        refine t_iald C h t_19 tqa_9 (by decide) wf_3 (iv_in iab19_3 (by decide)) dX10_isHalfEnough_36 (fun zab19_8 izab19_8 => ?_)
        refine lv_icmp_eq (tgt := 42) hx hb dX10_isHalfEnough_37 (by decide) (fun cab19_9 => ?_) (fun cab19_9 => ?_)
        · have cab19_10 : rab19_5.toInt = zab19_8.toInt := congrArg Int32.toInt cab19_9
          refine lv_aload_n hx hb dX10_isHalfEnough_42 rfl (lv_at hl 0 rfl) ?_
          refine t_getfd C h t_19 ha_6 (by decide) wf_10 (v := .ref gq) k19_u0_2 fl_X10_26 dX10_isHalfEnough_43 ?_
          refine lv_iconst (v := 1) hx hb dX10_isHalfEnough_46 (by decide) ?_
          obtain ⟨_, rab19_11⟩ := t_rec t_19 ha_8 (by decide) wf_20
          refine k_v (r_V C h hl (As := [.int 1]) (rest := []) (s_X2_advance l D G b0 τfa_3 f_19 t_19 gq ha_8 1 (iv_w (iv_k (x := 1) (k := 1) rfl) (by decide)) rq mq vb_ vu_ P_ md_ (Int.toNat (v19_4.toInt - 0)) hgs_ (by have n_ : (1 : Int32).toInt = 1 := rfl; omega)) rab19_11 (Cn := RX2) (T := TX2) (N := 11) rfl rfl mk_X2_advance w_767 w_688 w_689 w_690 ⟨Nat.le_of_ble_eq_true rfl, Nat.le_of_ble_eq_true rfl⟩ rfl (Nat.le_of_ble_eq_true rfl) ⟨Nat.le_of_ble_eq_true rfl, Nat.le_of_ble_eq_true rfl⟩ rfl dX10_isHalfEnough_47) h (fun fab19_13 H locs pab19_14 h => ?_)
          have nab19_15 : (1 : Int32).toInt = 1 := rfl
          obtain ⟨tfab19_13, ogfab19_13, x0rab19_12⟩ := pab19_14
          have ofab19_13 : Fr [0, 1, 3, 20, 21, 22, 23, 24, 25, 1004, 20001, 20002, 20007, 20008, 20009, 20010, 20011, 22001, 22002, 22003, 22004, 23001, 23002, 23003, 23004] τfa_3 fa_3 fab19_13 := Fr.tr o_19 ogfab19_13 (by decide) (by decide)
          have kab19_16 := atp.fr k19_u0_2 ogfab19_13 ha_6 (by decide)
          have kab19_17 := atp.fr k19_u1_3 ogfab19_13 ha_7 (by decide)
          have kab19_18 := atp.fr k19_u1_1 ogfab19_13 ha_7 (by decide)
          have kab19_19 := atp.fr k19_u1_2 ogfab19_13 ha_7 (by decide)
          refine i_inc hx hb dX10_isHalfEnough_50 hl (k := 2) rfl iab19_3 rfl (lo := 1) (hi := 13) (by decide) (by decide) (lv' := fun v => [(4, .int v), (0, .ref u0), (3, .ref qa_9)]) (fun _ => rfl) (fun zab19_20 ls ezab19_20 mzab19_20 izab19_20 hl => ?_)
          refine lv_goto (tgt := 19) hx hb dX10_isHalfEnough_53 (by decide) ?_
          exact ih19 ls fab19_13 H locs zab19_20 (show 13 - zab19_20.toInt < _ by omega) (lv_cons hl 1 rfl (lv_cons hl 2 rfl (lv_cons hl 0 rfl (lv_nil hl)))) h tfab19_13 ofab19_13 (iv_w izab19_20 (by decide)) jg19_u1_1 jg19_u1_2 kab19_16 kab19_17 kab19_18 kab19_19 (GS.gj x0rab19_12) (show ∃ (vb : Nat → Int32) (vu : Int) (P : Int → Int → Bool) (md : Int), GS G τfa_3 fab19_13 gq rq mq vb vu P md (Int.toNat (zab19_20.toInt - 0)) from ⟨_, _, _, _, (by rw [show Int.toNat (zab19_20.toInt - 0) = ((Int.toNat (v19_4.toInt - 0)) + (1 : Int32).toInt.toNat) from by have n1_ : (1 : Int32).toInt = 1 := rfl; omega]; exact x0rab19_12)⟩)
        · have cab19_10 : rab19_5.toInt ≠ zab19_8.toInt := fun z_ => cab19_9 (Int32.toInt_inj.mp z_)
          refine lv_iconst (v := 0) hx hb dX10_isHalfEnough_40 (by decide) ?_
          exact u_zret C h hr hQ ⟨by decide, by decide⟩ (⟨τfa_3, xfa_3, ⟨by decide, by decide⟩, t_19, (Fr.tr Ofa_3 (Fr.cv xfa_3 o_19 (by decide) (fun _ h_ => h_)) (fun _ h_ => h_) (fun _ h_ => h_)), k19_gq_GJ⟩) (Nat.le_of_ble_eq_true rfl) (Nat.le_of_ble_eq_true rfl) dX10_isHalfEnough_41
  exact L19 14 ls fa_12 H locs 0 (by decide) (lv_cons hl 2 rfl (lv_cons hl 1 rfl (lv_cons hl 0 rfl (lv_nil hl)))) h tfa_12 ofa_12 ⟨by decide, by decide⟩ isxP13 isyP13 ka_15 ka_16 ka_19 ka_20 gjfa_12 (show ∃ (vb : Nat → Int32) (vu : Int) (P : Int → Int → Bool) (md : Int), GS G τfa_3 fa_12 gq rq mq vb vu P md (Int.toNat (0 - 0)) from ⟨_, _, _, _, (by rw [show Int.toNat (0 - 0) = 0 from by have n1_ : (1 : Int32).toInt = 1 := rfl; omega]; exact x0ra_11)⟩)
abbrev rm_s_X10_enough : Room := { frames := 7, cells := 2, slots := 610, locals := 156 }
set_option maxRecDepth 100000 in
set_option maxHeartbeats 4000000 in
theorem s_X10_enough (l : Launch) (D : va_G) (G : Nat → Nat) (b0 : Nat) (τ : Nat → Nat) (f : hM) (t : TI G 9 τ f) (u0 : Nat) (hu0 : τ u0 = 10) (u1 : Int32) (hu1 : iv u1 (-2147483648) 2147483647) (gq rq mq : Nat) (hgq : τ gq = 20) (kq2 : atp f u0 (fd 2 (.ref gq))) (hGJ : GJ τ f gq rq mq) : mI l yX10_enough cX10_enough 3 (.int) rm_s_X10_enough D G b0 f [.ref u0, .int u1] (fun r f1 => (∃ τ1, Ex τ τ1 ∧ iv r (-1) 3 ∧ TI G 9 τ1 f1 ∧ Fr [0, 1, 3, 20, 21, 22, 23, 24, 25, 1004, 20001, 20002, 20007, 20008, 20009, 20010, 20011, 22001, 22002, 22003, 22004, 23001, 23002, 23003, 23004] τ f f1 ∧ GJ τ1 f1 gq rq mq)) := by
  refine met2 (own := RX10) (by decide) rfl (Nat.le_of_ble_eq_true rfl) ?_
  intro p e s m args below meth c ls Q hQ C hr hini hl h
  have hl : lv_has ls 3 [(0, .ref u0), (1, .int u1)] := hl
  obtain ⟨hx, hb, hml, hown, hts, hE0, hlk⟩ := id C
  have o := Fr.rf [0, 1, 3, 20, 21, 22, 23, 24, 25, 1004, 20001, 20002, 20007, 20008, 20009, 20010, 20011, 22001, 22002, 22003, 22004, 23001, 23002, 23003, 23004] τ f
  refine lv_aload_n hx hb dX10_enough_0 rfl (lv_at hl 0 rfl) ?_
  refine t_getr (tq := 12) C h t hu0 (by decide) wf_10 rfl fl_X10_19 dX10_enough_1 (fun qa_1 tqa_1 => ?_)
  refine lv_iload_n hx hb dX10_enough_4 rfl (lv_at hl 1 rfl) ?_
  obtain ⟨_, ra_2⟩ := t_rec t tqa_1 (by decide) wf_12
  refine k_q (r_V C h hl (As := [.int u1]) (rest := []) (s_X0_findN l D G b0 τ f t qa_1 tqa_1 u1 hu1) ra_2 (Cn := RX0) (T := TX0) (N := 6) rfl rfl mk_X0_find w_594 w_595 w_596 w_597 ⟨Nat.le_of_ble_eq_true rfl, Nat.le_of_ble_eq_true rfl⟩ rfl (Nat.le_of_ble_eq_true rfl) ⟨Nat.le_of_ble_eq_true rfl, Nat.le_of_ble_eq_true rfl⟩ rfl dX10_enough_5) h (fun ra_3 fa_4 H locs pa_5 h => ?_)
  obtain ⟨qra_3, tfa_4, ogfa_4, ocra_3⟩ := pa_5
  have egfa_4 := Fr.nil2 ogfa_4
  subst egfa_4
  have tra_3 := qra_3
  refine lv_astore_nO (lv' := [(2, va_rf ra_3), (0, .ref u0), (1, .int u1)]) hx hb dX10_enough_8 rfl hl (by decide) rfl (fun ls hl => ?_)
  refine lv_aload_nO hx hb dX10_enough_9 rfl (lv_at hl 0 rfl) ?_
  rcases va_rfc ra_3 with eqa_7 | ⟨qa_7, eqa_7⟩
  · subst eqa_7
    have hl : lv_has ls 3 [(2, .null), (0, .ref u0), (1, .int u1)] := hl
    show W _ _ _ _ _ _ _ _ _ _ _ _ _ _ _ (F0 m 10 ls [.null])
    refine lv_ifnonnullN hx hb dX10_enough_10 ?_
    refine lv_iconst (v := -1) hx hb dX10_enough_13 (by decide) ?_
    exact u_iret C h hr hQ (⟨τ, (Ex.rf τ), ⟨by decide, by decide⟩, t, o, hGJ⟩) (Nat.le_of_ble_eq_true rfl) (Nat.le_of_ble_eq_true rfl) dX10_enough_14
  · subst eqa_7
    have tqa_7 : τ qa_7 = 1 := tra_3 _ rfl
    have ia_8 : iv u1 0 7 := ocra_3 _ rfl
    have hl : lv_has ls 3 [(2, .ref qa_7), (0, .ref u0), (1, .int u1)] := hl
    show W _ _ _ _ _ _ _ _ _ _ _ _ _ _ _ (F0 m 10 ls [.ref qa_7])
    refine lv_ifnonnull (tgt := 15) hx hb dX10_enough_10 (by decide) ?_
    refine lv_aload_n hx hb dX10_enough_15 rfl (lv_at hl 1 rfl) ?_
    refine lv_aload_n hx hb dX10_enough_16 rfl (lv_at hl 0 rfl) ?_
    refine lv_iconst (v := 1) hx hb dX10_enough_17 (by decide) ?_
    obtain ⟨_, ra_9⟩ := t_rec t hu0 (by decide) wf_10
    refine k_i (r_V C h hl (As := [.ref qa_7, .int 1]) (rest := []) (s_X10_isHalfEnough l D G b0 τ f t u0 hu0 qa_7 tqa_7 1 (iv_w (iv_k (x := 1) (k := 1) rfl) (by decide)) gq rq mq hgq kq2 hGJ) ra_9 (Cn := RX10) (T := TX10) (N := 10) rfl rfl mk_X10_isHalfEnough w_1010 w_1012 w_26 w_1013 ⟨Nat.le_of_ble_eq_true rfl, Nat.le_of_ble_eq_true rfl⟩ rfl (Nat.le_of_ble_eq_true rfl) ⟨Nat.le_of_ble_eq_true rfl, Nat.le_of_ble_eq_true rfl⟩ rfl dX10_enough_18) h (fun ra_10 fa_11 H locs pa_12 h => ?_)
    obtain ⟨τfa_11, exfa_11, ira_10, tfa_11, ogfa_11, gjfa_11⟩ := pa_12
    have ofa_11 : Fr [0, 1, 3, 20, 21, 22, 23, 24, 25, 1004, 20001, 20002, 20007, 20008, 20009, 20010, 20011, 22001, 22002, 22003, 22004, 23001, 23002, 23003, 23004] τ f fa_11 := Fr.tr o ogfa_11 (by decide) (by decide)
    have ka_13 := atp.fr kq2 ogfa_11 hu0 (by decide)
    have Ofa_11 : Fr [0, 1, 3, 20, 21, 22, 23, 24, 25, 1004, 20001, 20002, 20007, 20008, 20009, 20010, 20011, 22001, 22002, 22003, 22004, 23001, 23002, 23003, 23004] τ f fa_11 := ofa_11
    have xfa_11 : Ex τ τfa_11 := exfa_11
    have ha_14 : τfa_11 u0 = 10 := Ex.at exfa_11 hu0 (by decide)
    have ha_15 : τfa_11 qa_7 = 1 := Ex.at exfa_11 tqa_7 (by decide)
    have ha_16 : τfa_11 gq = 20 := Ex.at exfa_11 hgq (by decide)
    have ofa_11z := Fr.rf [0, 1, 3, 20, 21, 22, 23, 24, 25, 1004, 20001, 20002, 20007, 20008, 20009, 20010, 20011, 22001, 22002, 22003, 22004, 23001, 23002, 23003, 23004] τfa_11 fa_11
    refine lv_if_eq (tgt := 28) hx hb dX10_enough_21 (by decide) (fun ca_17 => ?_) (fun ca_17 => ?_)
    · have ca_18 : ra_10.toInt = 0 := congrArg Int32.toInt ca_17
      have ia_19 : iv ra_10 0 0 := iv_Q ca_18 ira_10 (iv_k (x := 0) (k := 0) rfl) (by decide)
      refine lv_iconst (v := 0) hx hb dX10_enough_28 (by decide) ?_
      refine lv_aload_n hx hb dX10_enough_29 rfl (lv_at hl 1 rfl) ?_
      refine lv_aload_n hx hb dX10_enough_30 rfl (lv_at hl 0 rfl) ?_
      refine lv_iconst (v := 3) hx hb dX10_enough_31 (by decide) ?_
      obtain ⟨_, ra_20⟩ := t_rec tfa_11 ha_14 (by decide) wf_10
      refine k_i (r_V C h hl (As := [.ref qa_7, .int 3]) (rest := [.int 0]) (s_X10_isHalfEnough l D G b0 τfa_11 fa_11 tfa_11 u0 ha_14 qa_7 ha_15 3 (iv_w (iv_k (x := 3) (k := 3) rfl) (by decide)) gq rq mq ha_16 ka_13 gjfa_11) ra_20 (Cn := RX10) (T := TX10) (N := 10) rfl rfl mk_X10_isHalfEnough w_1010 w_1012 w_26 w_1013 ⟨Nat.le_of_ble_eq_true rfl, Nat.le_of_ble_eq_true rfl⟩ rfl (Nat.le_of_ble_eq_true rfl) ⟨Nat.le_of_ble_eq_true rfl, Nat.le_of_ble_eq_true rfl⟩ rfl dX10_enough_32) h (fun ra_21 fa_22 H locs pa_23 h => ?_)
      obtain ⟨τfa_22, exfa_22, ira_21, tfa_22, ogfa_22, gjfa_22⟩ := pa_23
      have ofa_22 : Fr [0, 1, 3, 20, 21, 22, 23, 24, 25, 1004, 20001, 20002, 20007, 20008, 20009, 20010, 20011, 22001, 22002, 22003, 22004, 23001, 23002, 23003, 23004] τfa_11 fa_11 fa_22 := Fr.tr ofa_11z ogfa_22 (by decide) (by decide)
      have ka_24 := atp.fr ka_13 ogfa_22 ha_14 (by decide)
      have Ofa_22 : Fr [0, 1, 3, 20, 21, 22, 23, 24, 25, 1004, 20001, 20002, 20007, 20008, 20009, 20010, 20011, 22001, 22002, 22003, 22004, 23001, 23002, 23003, 23004] τ f fa_22 := Fr.tr Ofa_11 (Fr.cv xfa_11 ofa_22 (by decide) (fun _ h_ => h_)) (fun _ h_ => h_) (fun _ h_ => h_)
      have xfa_22 : Ex τ τfa_22 := Ex.tr xfa_11 exfa_22
      have ha_25 : τfa_22 u0 = 10 := Ex.at exfa_22 ha_14 (by decide)
      have ha_26 : τfa_22 qa_7 = 1 := Ex.at exfa_22 ha_15 (by decide)
      have ha_27 : τfa_22 gq = 20 := Ex.at exfa_22 ha_16 (by decide)
      have ofa_22z := Fr.rf [0, 1, 3, 20, 21, 22, 23, 24, 25, 1004, 20001, 20002, 20007, 20008, 20009, 20010, 20011, 22001, 22002, 22003, 22004, 23001, 23002, 23003, 23004] τfa_22 fa_22
      refine lv_if_eq (tgt := 42) hx hb dX10_enough_35 (by decide) (fun ca_28 => ?_) (fun ca_28 => ?_)
      · have ca_29 : ra_21.toInt = 0 := congrArg Int32.toInt ca_28
        have ia_30 : iv ra_21 0 0 := iv_Q ca_29 ira_21 (iv_k (x := 0) (k := 0) rfl) (by decide)
        refine lv_iconst (v := 0) hx hb dX10_enough_42 (by decide) ?_
        refine lv_iadd hx hb dX10_enough_43 (lv_topi (fun x_ e_ => ?_))
        obtain rfl : 0 = x_ := by rw [e_]; decide
        exact u_iret C h hr hQ (⟨τfa_22, xfa_22, ⟨by decide, by decide⟩, tfa_22, (Fr.tr Ofa_22 (Fr.cv xfa_22 ofa_22z (by decide) (fun _ h_ => h_)) (fun _ h_ => h_) (fun _ h_ => h_)), gjfa_22⟩) (Nat.le_of_ble_eq_true rfl) (Nat.le_of_ble_eq_true rfl) dX10_enough_44
      · have ca_29 : ra_21.toInt ≠ 0 := fun z_ => ca_28 (Int32.toInt_inj.mp z_)
        have ia_30 : iv ra_21 1 1 := iv_Nl ca_29 ira_21 (by decide)
        refine lv_iconst (v := 2) hx hb dX10_enough_38 (by decide) ?_
        refine lv_goto (tgt := 43) hx hb dX10_enough_39 (by decide) ?_
        refine lv_iadd hx hb dX10_enough_43 (lv_topi (fun x_ e_ => ?_))
        obtain rfl : 2 = x_ := by rw [e_]; decide
        exact u_iret C h hr hQ (⟨τfa_22, xfa_22, ⟨by decide, by decide⟩, tfa_22, (Fr.tr Ofa_22 (Fr.cv xfa_22 ofa_22z (by decide) (fun _ h_ => h_)) (fun _ h_ => h_) (fun _ h_ => h_)), gjfa_22⟩) (Nat.le_of_ble_eq_true rfl) (Nat.le_of_ble_eq_true rfl) dX10_enough_44
    · have ca_18 : ra_10.toInt ≠ 0 := fun z_ => ca_17 (Int32.toInt_inj.mp z_)
      have ia_19 : iv ra_10 1 1 := iv_Nl ca_18 ira_10 (by decide)
      refine lv_iconst (v := 1) hx hb dX10_enough_24 (by decide) ?_
      refine lv_goto (tgt := 29) hx hb dX10_enough_25 (by decide) ?_
      refine lv_aload_n hx hb dX10_enough_29 rfl (lv_at hl 1 rfl) ?_
      refine lv_aload_n hx hb dX10_enough_30 rfl (lv_at hl 0 rfl) ?_
      refine lv_iconst (v := 3) hx hb dX10_enough_31 (by decide) ?_
      obtain ⟨_, ra_20⟩ := t_rec tfa_11 ha_14 (by decide) wf_10
      refine k_i (r_V C h hl (As := [.ref qa_7, .int 3]) (rest := [.int 1]) (s_X10_isHalfEnough l D G b0 τfa_11 fa_11 tfa_11 u0 ha_14 qa_7 ha_15 3 (iv_w (iv_k (x := 3) (k := 3) rfl) (by decide)) gq rq mq ha_16 ka_13 gjfa_11) ra_20 (Cn := RX10) (T := TX10) (N := 10) rfl rfl mk_X10_isHalfEnough w_1010 w_1012 w_26 w_1013 ⟨Nat.le_of_ble_eq_true rfl, Nat.le_of_ble_eq_true rfl⟩ rfl (Nat.le_of_ble_eq_true rfl) ⟨Nat.le_of_ble_eq_true rfl, Nat.le_of_ble_eq_true rfl⟩ rfl dX10_enough_32) h (fun ra_21 fa_22 H locs pa_23 h => ?_)
      obtain ⟨τfa_22, exfa_22, ira_21, tfa_22, ogfa_22, gjfa_22⟩ := pa_23
      have ofa_22 : Fr [0, 1, 3, 20, 21, 22, 23, 24, 25, 1004, 20001, 20002, 20007, 20008, 20009, 20010, 20011, 22001, 22002, 22003, 22004, 23001, 23002, 23003, 23004] τfa_11 fa_11 fa_22 := Fr.tr ofa_11z ogfa_22 (by decide) (by decide)
      have ka_24 := atp.fr ka_13 ogfa_22 ha_14 (by decide)
      have Ofa_22 : Fr [0, 1, 3, 20, 21, 22, 23, 24, 25, 1004, 20001, 20002, 20007, 20008, 20009, 20010, 20011, 22001, 22002, 22003, 22004, 23001, 23002, 23003, 23004] τ f fa_22 := Fr.tr Ofa_11 (Fr.cv xfa_11 ofa_22 (by decide) (fun _ h_ => h_)) (fun _ h_ => h_) (fun _ h_ => h_)
      have xfa_22 : Ex τ τfa_22 := Ex.tr xfa_11 exfa_22
      have ha_25 : τfa_22 u0 = 10 := Ex.at exfa_22 ha_14 (by decide)
      have ha_26 : τfa_22 qa_7 = 1 := Ex.at exfa_22 ha_15 (by decide)
      have ha_27 : τfa_22 gq = 20 := Ex.at exfa_22 ha_16 (by decide)
      have ofa_22z := Fr.rf [0, 1, 3, 20, 21, 22, 23, 24, 25, 1004, 20001, 20002, 20007, 20008, 20009, 20010, 20011, 22001, 22002, 22003, 22004, 23001, 23002, 23003, 23004] τfa_22 fa_22
      refine lv_if_eq (tgt := 42) hx hb dX10_enough_35 (by decide) (fun ca_28 => ?_) (fun ca_28 => ?_)
      · have ca_29 : ra_21.toInt = 0 := congrArg Int32.toInt ca_28
        have ia_30 : iv ra_21 0 0 := iv_Q ca_29 ira_21 (iv_k (x := 0) (k := 0) rfl) (by decide)
        refine lv_iconst (v := 0) hx hb dX10_enough_42 (by decide) ?_
        refine lv_iadd hx hb dX10_enough_43 (lv_topi (fun x_ e_ => ?_))
        obtain rfl : 1 = x_ := by rw [e_]; decide
        exact u_iret C h hr hQ (⟨τfa_22, xfa_22, ⟨by decide, by decide⟩, tfa_22, (Fr.tr Ofa_22 (Fr.cv xfa_22 ofa_22z (by decide) (fun _ h_ => h_)) (fun _ h_ => h_) (fun _ h_ => h_)), gjfa_22⟩) (Nat.le_of_ble_eq_true rfl) (Nat.le_of_ble_eq_true rfl) dX10_enough_44
      · have ca_29 : ra_21.toInt ≠ 0 := fun z_ => ca_28 (Int32.toInt_inj.mp z_)
        have ia_30 : iv ra_21 1 1 := iv_Nl ca_29 ira_21 (by decide)
        refine lv_iconst (v := 2) hx hb dX10_enough_38 (by decide) ?_
        refine lv_goto (tgt := 43) hx hb dX10_enough_39 (by decide) ?_
        refine lv_iadd hx hb dX10_enough_43 (lv_topi (fun x_ e_ => ?_))
        obtain rfl : 3 = x_ := by rw [e_]; decide
        exact u_iret C h hr hQ (⟨τfa_22, xfa_22, ⟨by decide, by decide⟩, tfa_22, (Fr.tr Ofa_22 (Fr.cv xfa_22 ofa_22z (by decide) (fun _ h_ => h_)) (fun _ h_ => h_) (fun _ h_ => h_)), gjfa_22⟩) (Nat.le_of_ble_eq_true rfl) (Nat.le_of_ble_eq_true rfl) dX10_enough_44
abbrev rm_s_X10_areAlike : Room := { frames := 0, cells := 0, slots := 0, locals := 0 }
set_option maxRecDepth 100000 in
set_option maxHeartbeats 4000000 in
theorem s_X10_areAlike (l : Launch) (D : va_G) (G : Nat → Nat) (b0 : Nat) (τ : Nat → Nat) (f : hM) (t : TI G 9 τ f) (u0 : Nat) (hu0 : τ u0 = 3) (u1 : Nat) (hu1 : τ u1 = 3) : mI l yX10_areAlike cX10_areAlike 3 (.boolean) rm_s_X10_areAlike D G b0 f [.ref u0, .ref u1] (fun r f1 => iv r 0 1 ∧ TI G 9 τ f1 ∧ Fr [] τ f f1) := by
  refine met2 (own := RX10) (by decide) rfl (Nat.le_of_ble_eq_true rfl) ?_
  intro p e s m args below meth c ls Q hQ C hr hini hl h
  have hl : lv_has ls 3 [(0, .ref u0), (1, .ref u1)] := hl
  obtain ⟨hx, hb, hml, hown, hts, hE0, hlk⟩ := id C
  have o := Fr.rf [] τ f
  have L2 : ∀ (n2 : Nat) (ls : Array Slot) (f_2 : hM) (H : Heap) (locs : List Loc) (v2_2 : Int32), 21 - v2_2.toInt < (n2 : Int) → lv_has ls 3 [(0, .ref u0), (1, .ref u1), (2, .int v2_2)] → hw D b0 s.heap f_2 H locs → TI G 9 τ f_2 → Fr [] τ f f_2 → iv v2_2 0 21 → W p l e rm_s_X10_areAlike s m args below meth c H locs 0 0 Q (F0 m 2 ls []) := by
    intro n2
    induction n2 with
    | zero => intro ls f_2 H locs v2_2 hm2 hl h t_2 o_2 iv2_2; exact absurd hm2 (by omega)
    | succ n2 ih2 =>
      intro ls f_2 H locs v2_2 hm2 hl h t_2 o_2 iv2_2
      refine lv_iload_n hx hb dX10_areAlike_2 rfl (lv_at hl 2 rfl) ?_
      refine lv_bipush (v := 20) hx hb dX10_areAlike_3 (by decide) ?_
      refine lv_icmp_gt (tgt := 25) hx hb dX10_areAlike_5 (by decide) (fun c1 => ?_) (fun c1 => ?_)
      · have c2 : 20 < v2_2.toInt := Int32.lt_iff_toInt_lt.mp c1
        have i3 : iv v2_2 21 21 := iv_Lr c2 (iv_k (x := 20) (k := 20) rfl) iv2_2 (by decide)
        refine lv_iconst (v := 1) hx hb dX10_areAlike_25 (by decide) ?_
        exact u_zret C h hr hQ ⟨by decide, by decide⟩ (⟨⟨by decide, by decide⟩, t_2, o_2⟩) (Nat.le_of_ble_eq_true rfl) (Nat.le_of_ble_eq_true rfl) dX10_areAlike_26
      · have c4 : v2_2.toInt ≤ 20 := Int32.le_iff_toInt_le.mp (iv_nlt c1)
        have i5 : iv v2_2 0 20 := iv_El c4 iv2_2 (iv_k (x := 20) (k := 20) rfl) (by decide)
        refine lv_aload_n hx hb dX10_areAlike_8 rfl (lv_at hl 0 rfl) ?_
        refine lv_iload_n hx hb dX10_areAlike_9 rfl (lv_at hl 2 rfl) ?_
        refine t_iald C h t_2 hu0 (by decide) wf_3 (iv_in i5 (by decide)) dX10_areAlike_10 (fun z6 iz6 => ?_)
        refine lv_aload_n hx hb dX10_areAlike_11 rfl (lv_at hl 1 rfl) ?_
        refine lv_iload_n hx hb dX10_areAlike_12 rfl (lv_at hl 2 rfl) ?_
        refine t_iald C h t_2 hu1 (by decide) wf_3 (iv_in i5 (by decide)) dX10_areAlike_13 (fun z7 iz7 => ?_)
        refine lv_icmp_eq (tgt := 19) hx hb dX10_areAlike_14 (by decide) (fun c8 => ?_) (fun c8 => ?_)
        · have c9 : z6.toInt = z7.toInt := congrArg Int32.toInt c8
          refine i_inc hx hb dX10_areAlike_19 hl (k := 2) rfl i5 rfl (lo := 1) (hi := 21) (by decide) (by decide) (lv' := fun v => [(2, .int v), (0, .ref u0), (1, .ref u1)]) (fun _ => rfl) (fun z11 ls ez11 mz11 iz11 hl => ?_)
          refine lv_goto (tgt := 2) hx hb dX10_areAlike_22 (by decide) ?_
          exact ih2 ls f_2 H locs z11 (show 21 - z11.toInt < _ by omega) (lv_cons hl 1 rfl (lv_cons hl 2 rfl (lv_cons hl 0 rfl (lv_nil hl)))) h t_2 o_2 (iv_w iz11 (by decide))
        · have c10 : z6.toInt ≠ z7.toInt := fun z_ => c8 (Int32.toInt_inj.mp z_)
          refine lv_iconst (v := 0) hx hb dX10_areAlike_17 (by decide) ?_
          exact u_zret C h hr hQ ⟨by decide, by decide⟩ (⟨⟨by decide, by decide⟩, t_2, o_2⟩) (Nat.le_of_ble_eq_true rfl) (Nat.le_of_ble_eq_true rfl) dX10_areAlike_18
  refine lv_iconst (v := 0) hx hb dX10_areAlike_0 (by decide) ?_
  refine lv_istore_n (lv' := [(2, .int 0), (0, .ref u0), (1, .ref u1)]) hx hb dX10_areAlike_1 rfl hl (by decide) rfl (fun ls hl => ?_)
  exact L2 22 ls f s.heap [] 0 (by decide) (lv_cons hl 1 rfl (lv_cons hl 2 rfl (lv_cons hl 0 rfl (lv_nil hl)))) h t o ⟨by decide, by decide⟩
abbrev rm_s_X10_hankel : Room := { frames := 7, cells := 1, slots := 305, locals := 155 }
set_option maxRecDepth 100000 in
set_option maxHeartbeats 4000000 in
theorem s_X10_hankel (l : Launch) (D : va_G) (G : Nat → Nat) (b0 : Nat) (τ : Nat → Nat) (f : hM) (t : TI G 9 τ f) (u0 : Nat) (hu0 : τ u0 = 10) (u1 : Int32) (hu1 : iv u1 (-2147483648) 2147483647) (u2 : Int32) (hu2 : iv u2 (-2147483648) 2147483647) (u3 : Int32) (hu3 : iv u3 (-2147483648) 2147483647) (gq rq mq : Nat) (hgq : τ gq = 20) (kq2 : atp f u0 (fd 2 (.ref gq))) (hGJ : GJ τ f gq rq mq) : mI l yX10_hankel cX10_hankel 7 (.int) rm_s_X10_hankel D G b0 f [.ref u0, .int u1, .int u2, .int u3] (fun r f1 => (∃ τ1, Ex τ τ1 ∧ iv r (-2147483648) 2147483647 ∧ TI G 9 τ1 f1 ∧ Fr [0, 1, 3, 20, 21, 22, 23, 24, 25, 40, 41, 42, 1004, 20001, 20002, 20007, 20008, 20009, 20010, 20011, 22001, 22002, 22003, 22004, 23001, 23002, 23003, 23004, 40002, 40003, 40004] τ f f1 ∧ GJ τ1 f1 gq rq mq)) := by
  refine met2 (own := RX10) (by decide) rfl (Nat.le_of_ble_eq_true rfl) ?_
  intro p e s m args below meth c ls Q hQ C hr hini hl h
  have hl : lv_has ls 7 [(0, .ref u0), (1, .int u1), (2, .int u2), (3, .int u3)] := hl
  obtain ⟨hx, hb, hml, hown, hts, hE0, hlk⟩ := id C
  have o := Fr.rf [0, 1, 3, 20, 21, 22, 23, 24, 25, 40, 41, 42, 1004, 20001, 20002, 20007, 20008, 20009, 20010, 20011, 22001, 22002, 22003, 22004, 23001, 23002, 23003, 23004, 40002, 40003, 40004] τ f
  refine lv_aload_n hx hb dX10_hankel_0 rfl (lv_at hl 0 rfl) ?_
  refine t_getr (tq := 12) C h t hu0 (by decide) wf_10 rfl fl_X10_19 dX10_hankel_1 (fun qa_1 tqa_1 => ?_)
  refine lv_iload_n hx hb dX10_hankel_4 rfl (lv_at hl 1 rfl) ?_
  obtain ⟨_, ra_2⟩ := t_rec t tqa_1 (by decide) wf_12
  refine k_q (r_V C h hl (As := [.int u1]) (rest := []) (s_X0_findN l D G b0 τ f t qa_1 tqa_1 u1 hu1) ra_2 (Cn := RX0) (T := TX0) (N := 6) rfl rfl mk_X0_find w_594 w_595 w_596 w_597 ⟨Nat.le_of_ble_eq_true rfl, Nat.le_of_ble_eq_true rfl⟩ rfl (Nat.le_of_ble_eq_true rfl) ⟨Nat.le_of_ble_eq_true rfl, Nat.le_of_ble_eq_true rfl⟩ rfl dX10_hankel_5) h (fun ra_3 fa_4 H locs pa_5 h => ?_)
  obtain ⟨qra_3, tfa_4, ogfa_4, ocra_3⟩ := pa_5
  have egfa_4 := Fr.nil2 ogfa_4
  subst egfa_4
  have tra_3 := qra_3
  refine lv_astoreO (lv' := [(4, va_rf ra_3), (0, .ref u0), (1, .int u1), (2, .int u2), (3, .int u3)]) hx hb dX10_hankel_8 hl (by decide) rfl (fun ls hl => ?_)
  refine lv_aloadO hx hb dX10_hankel_10 (lv_at hl 0 rfl) ?_
  rcases va_rfc ra_3 with eqa_7 | ⟨qa_7, eqa_7⟩
  · subst eqa_7
    have hl : lv_has ls 7 [(4, .null), (0, .ref u0), (1, .int u1), (2, .int u2), (3, .int u3)] := hl
    show W _ _ _ _ _ _ _ _ _ _ _ _ _ _ _ (F0 m 12 ls [.null])
    refine lv_ifnullN (tgt := 32) hx hb dX10_hankel_12 (by decide) ?_
    refine lv_iconst (v := -1) hx hb dX10_hankel_32 (by decide) ?_
    exact u_iret C h hr hQ (⟨τ, (Ex.rf τ), ⟨by decide, by decide⟩, t, o, hGJ⟩) (Nat.le_of_ble_eq_true rfl) (Nat.le_of_ble_eq_true rfl) dX10_hankel_33
  · subst eqa_7
    have tqa_7 : τ qa_7 = 1 := tra_3 _ rfl
    have ia_8 : iv u1 0 7 := ocra_3 _ rfl
    have hl : lv_has ls 7 [(4, .ref qa_7), (0, .ref u0), (1, .int u1), (2, .int u2), (3, .int u3)] := hl
    show W _ _ _ _ _ _ _ _ _ _ _ _ _ _ _ (F0 m 12 ls [.ref qa_7])
    refine lv_ifnull hx hb dX10_hankel_12 ?_
    refine lv_iload_n hx hb dX10_hankel_15 rfl (lv_at hl 3 rfl) ?_
    refine k_i (r_S C h hl (As := [.int u2]) (rest := []) (s_X10_isKind l D G b0 τ f t u2 hu2) mk_X10_isKind w_721 w_722 w_723 ⟨Nat.le_of_ble_eq_true rfl, Nat.le_of_ble_eq_true rfl⟩ rfl (Nat.le_of_ble_eq_true rfl) ⟨Nat.le_of_ble_eq_true rfl, Nat.le_of_ble_eq_true rfl⟩ rfl dX10_hankel_16) h (fun ra_9 fa_10 H locs pa_11 h => ?_)
    obtain ⟨ira_9, tfa_10, ogfa_10, cnra_9⟩ := pa_11
    have egfa_10 := Fr.nil2 ogfa_10
    subst egfa_10
    refine lv_if_eq (tgt := 32) hx hb dX10_hankel_19 (by decide) (fun ca_12 => ?_) (fun ca_12 => ?_)
    · have ca_13 : ra_9.toInt = 0 := congrArg Int32.toInt ca_12
      have ia_14 : iv ra_9 0 0 := iv_Q ca_13 ira_9 (iv_k (x := 0) (k := 0) rfl) (by decide)
      refine lv_iconst (v := -1) hx hb dX10_hankel_32 (by decide) ?_
      exact u_iret C h hr hQ (⟨τ, (Ex.rf τ), ⟨by decide, by decide⟩, t, o, hGJ⟩) (Nat.le_of_ble_eq_true rfl) (Nat.le_of_ble_eq_true rfl) dX10_hankel_33
    · have ca_13 : ra_9.toInt ≠ 0 := fun z_ => ca_12 (Int32.toInt_inj.mp z_)
      have ia_14 : iv ra_9 1 1 := iv_Nl ca_13 ira_9 (by decide)
      have ia_15 := cnra_9 ca_13
      refine lv_iload_n hx hb dX10_hankel_22 rfl (lv_at hl 4 rfl) ?_
      refine lv_iconst (v := 1) hx hb dX10_hankel_23 (by decide) ?_
      refine lv_bipush (v := 8) hx hb dX10_hankel_24 (by decide) ?_
      refine k_i (r_S C h hl (As := [.int u3, .int 1, .int 8]) (rest := []) (s_X10_within l D G b0 τ f t u3 hu3 1 (iv_w (iv_k (x := 1) (k := 1) rfl) (by decide)) 8 (iv_w (iv_k (x := 8) (k := 8) rfl) (by decide))) mk_X10_within w_425 w_426 w_427 ⟨Nat.le_of_ble_eq_true rfl, Nat.le_of_ble_eq_true rfl⟩ rfl (Nat.le_of_ble_eq_true rfl) ⟨Nat.le_of_ble_eq_true rfl, Nat.le_of_ble_eq_true rfl⟩ rfl dX10_hankel_26) h (fun ra_16 fa_17 H locs pa_18 h => ?_)
      have na_19 : (1 : Int32).toInt = 1 := rfl
      have na_20 : (8 : Int32).toInt = 8 := rfl
      obtain ⟨ira_16, tfa_17, ogfa_17, cnra_16, czra_16⟩ := pa_18
      have egfa_17 := Fr.nil2 ogfa_17
      subst egfa_17
      refine lv_if_ne (tgt := 34) hx hb dX10_hankel_29 (by decide) (fun ca_21 => ?_) (fun ca_21 => ?_)
      · have ca_22 : ra_16.toInt ≠ 0 := fun z_ => ca_21 (Int32.toInt_inj.mp z_)
        have ia_23 : iv ra_16 1 1 := iv_Nl ca_22 ira_16 (by decide)
        obtain ⟨ia_24, ia_25⟩ := cnra_16 ca_22
        have ia_26 : iv u3 1 8 := ⟨by omega, by omega⟩
        refine lv_aload_n hx hb dX10_hankel_34 rfl (lv_at hl 1 rfl) ?_
        refine t_getr (tq := 40) C h t hu0 (by decide) wf_10 rfl fl_X10_47 dX10_hankel_35 (fun qa_27 tqa_27 => ?_)
        refine lv_iload_n hx hb dX10_hankel_38 rfl (lv_at hl 4 rfl) ?_
        refine lv_iload_n hx hb dX10_hankel_39 rfl (lv_at hl 4 rfl) ?_
        obtain ⟨_, ra_28⟩ := t_rec t tqa_27 (by decide) wf_40
        refine k_v (r_V C h hl (As := [.int u3, .int u3]) (rest := []) (s_X4_shape l D G b0 τ f t qa_27 tqa_27 u3 (iv_w ia_26 (by decide)) u3 (iv_w ia_26 (by decide))) ra_28 (Cn := RX4) (T := TX4) (N := 4) rfl rfl mk_X4_shape w_786 w_787 w_788 w_789 ⟨Nat.le_of_ble_eq_true rfl, Nat.le_of_ble_eq_true rfl⟩ rfl (Nat.le_of_ble_eq_true rfl) ⟨Nat.le_of_ble_eq_true rfl, Nat.le_of_ble_eq_true rfl⟩ rfl dX10_hankel_40) h (fun fa_30 H locs pa_31 h => ?_)
        obtain ⟨tfa_30, ogfa_30⟩ := pa_31
        have ofa_30 : Fr [0, 1, 3, 20, 21, 22, 23, 24, 25, 40, 41, 42, 1004, 20001, 20002, 20007, 20008, 20009, 20010, 20011, 22001, 22002, 22003, 22004, 23001, 23002, 23003, 23004, 40002, 40003, 40004] τ f fa_30 := Fr.tr o ogfa_30 (by decide) (by decide)
        have ka_32 := atp.fr kq2 ogfa_30 hu0 (by decide)
        have ka_33 := GJ.fr hGJ ogfa_30 hgq (by decide)
        refine lv_iconst (v := 0) hx hb dX10_hankel_43 (by decide) ?_
        refine lv_istore (lv' := [(5, .int 0), (4, .ref qa_7), (0, .ref u0), (1, .int u1), (2, .int u2), (3, .int u3)]) hx hb dX10_hankel_44 hl (by decide) rfl (fun ls hl => ?_)
        refine lv_iload hx hb dX10_hankel_46 (lv_at hl 0 rfl) ?_
        refine lv_iload_n hx hb dX10_hankel_48 rfl (lv_at hl 5 rfl) ?_
        refine lv_icmp_ge (tgt := 97) hx hb dX10_hankel_49 (by decide) (fun ca_34 => ?_) (fun ca_34 => ?_)
        · have ca_35 : u3.toInt ≤ 0 := Int32.le_iff_toInt_le.mp ca_34
          exact (iv_ce_ ca_35 ia_26 (iv_k (x := 0) (k := 0) rfl) (by decide)).elim
        · have ca_35 : 0 < u3.toInt := Int32.lt_iff_toInt_lt.mp (iv_nle ca_34)
          refine lv_iconst (v := 0) hx hb dX10_hankel_52 (by decide) ?_
          refine lv_istore (lv' := [(6, .int 0), (5, .int 0), (4, .ref qa_7), (0, .ref u0), (1, .int u1), (2, .int u2), (3, .int u3)]) hx hb dX10_hankel_53 hl (by decide) rfl (fun ls hl => ?_)
          refine lv_iload hx hb dX10_hankel_55 (lv_at hl 0 rfl) ?_
          refine lv_iload_n hx hb dX10_hankel_57 rfl (lv_at hl 6 rfl) ?_
          refine lv_icmp_ge (tgt := 91) hx hb dX10_hankel_58 (by decide) (fun ca_36 => ?_) (fun ca_36 => ?_)
          · have ca_37 : u3.toInt ≤ 0 := Int32.le_iff_toInt_le.mp ca_36
            exact (iv_ce_ ca_37 ia_26 (iv_k (x := 0) (k := 0) rfl) (by decide)).elim
          · have ca_37 : 0 < u3.toInt := Int32.lt_iff_toInt_lt.mp (iv_nle ca_36)
            refine lv_aload_n hx hb dX10_hankel_61 rfl (lv_at hl 3 rfl) ?_
            refine t_getr (tq := 40) C h tfa_30 hu0 (by decide) wf_10 rfl fl_X10_47 dX10_hankel_62 (fun qa_38 tqa_38 => ?_)
            refine lv_iload hx hb dX10_hankel_65 (lv_at hl 1 rfl) ?_
            refine lv_iload hx hb dX10_hankel_67 (lv_at hl 0 rfl) ?_
            refine lv_aload_n hx hb dX10_hankel_69 rfl (lv_at hl 3 rfl) ?_
            refine lv_aload hx hb dX10_hankel_70 (lv_at hl 2 rfl) ?_
            refine lv_iload_n hx hb dX10_hankel_72 rfl (lv_at hl 5 rfl) ?_
            refine lv_iload hx hb dX10_hankel_73 (lv_at hl 1 rfl) ?_
            refine lv_iload hx hb dX10_hankel_75 (lv_at hl 0 rfl) ?_
            refine lv_iadd hx hb dX10_hankel_77 (lv_topi (fun x_ e_ => ?_))
            obtain rfl : 0 = x_ := by rw [e_]; decide
            obtain ⟨_, ra_39⟩ := t_rec tfa_30 hu0 (by decide) wf_10
            refine k_i (r_V C h hl (As := [.ref qa_7, .int u2, .int 0]) (rest := [.int 0, .int 0, .ref qa_38]) (s_X10_term l D G b0 τ fa_30 tfa_30 u0 hu0 qa_7 tqa_7 u2 ia_15 0 (iv_w (iv_k (x := 0) (k := 0) rfl) (by decide)) gq rq mq hgq ka_32 ka_33) ra_39 (Cn := RX10) (T := TX10) (N := 10) rfl rfl mk_X10_term w_724 w_726 w_17 w_727 ⟨Nat.le_of_ble_eq_true rfl, Nat.le_of_ble_eq_true rfl⟩ rfl (Nat.le_of_ble_eq_true rfl) ⟨Nat.le_of_ble_eq_true rfl, Nat.le_of_ble_eq_true rfl⟩ rfl dX10_hankel_78) h (fun ra_40 fa_41 H locs pa_42 h => ?_)
            have na_43 : (0 : Int32).toInt = 0 := rfl
            obtain ⟨τfa_41, exfa_41, ira_40, tfa_41, ogfa_41, x0ra_40, ⟨ztfa_41, ttfa_41, ktfa_41⟩, gjfa_41⟩ := pa_42
            have ofa_41 : Fr [0, 1, 3, 20, 21, 22, 23, 24, 25, 40, 41, 42, 1004, 20001, 20002, 20007, 20008, 20009, 20010, 20011, 22001, 22002, 22003, 22004, 23001, 23002, 23003, 23004, 40002, 40003, 40004] τ f fa_41 := Fr.tr ofa_30 ogfa_41 (by decide) (by decide)
            have ka_44 := atp.fr ka_32 ogfa_41 hu0 (by decide)
            have Ofa_41 : Fr [0, 1, 3, 20, 21, 22, 23, 24, 25, 40, 41, 42, 1004, 20001, 20002, 20007, 20008, 20009, 20010, 20011, 22001, 22002, 22003, 22004, 23001, 23002, 23003, 23004, 40002, 40003, 40004] τ f fa_41 := ofa_41
            have xfa_41 : Ex τ τfa_41 := exfa_41
            have ha_45 : τfa_41 qa_38 = 40 := Ex.at exfa_41 tqa_38 (by decide)
            have ha_46 : τfa_41 u0 = 10 := Ex.at exfa_41 hu0 (by decide)
            have ha_47 : τfa_41 qa_7 = 1 := Ex.at exfa_41 tqa_7 (by decide)
            have ha_48 : τfa_41 gq = 20 := Ex.at exfa_41 hgq (by decide)
            have ofa_41z := Fr.rf [0, 1, 3, 20, 21, 22, 23, 24, 25, 40, 41, 42, 1004, 20001, 20002, 20007, 20008, 20009, 20010, 20011, 22001, 22002, 22003, 22004, 23001, 23002, 23003, 23004, 40002, 40003, 40004] τfa_41 fa_41
            refine lv_i2l hx hb dX10_hankel_81 rfl (i_topL ira_40 (fun wa_49 ewa_49 mwa_49 iwa_49 => ?_))
            obtain ⟨_, ra_50⟩ := t_rec tfa_41 ha_45 (by decide) wf_40
            refine k_v (r_V C h hl (As := [.int 0, .int 0, .long wa_49]) (rest := []) (s_X4_put l D G b0 τfa_41 fa_41 tfa_41 qa_38 ha_45 0 (iv_w (iv_k (x := 0) (k := 0) rfl) (by decide)) 0 (iv_w (iv_k (x := 0) (k := 0) rfl) (by decide)) wa_49) ra_50 (Cn := RX4) (T := TX4) (N := 4) rfl rfl mk_X4_put w_792 w_793 w_794 w_795 ⟨Nat.le_of_ble_eq_true rfl, Nat.le_of_ble_eq_true rfl⟩ rfl (Nat.le_of_ble_eq_true rfl) ⟨Nat.le_of_ble_eq_true rfl, Nat.le_of_ble_eq_true rfl⟩ rfl dX10_hankel_82) h (fun fa_52 H locs pa_53 h => ?_)
            obtain ⟨tfa_52, ogfa_52⟩ := pa_53
            have ofa_52 : Fr [0, 1, 3, 20, 21, 22, 23, 24, 25, 40, 41, 42, 1004, 20001, 20002, 20007, 20008, 20009, 20010, 20011, 22001, 22002, 22003, 22004, 23001, 23002, 23003, 23004, 40002, 40003, 40004] τfa_41 fa_41 fa_52 := Fr.tr ofa_41z ogfa_52 (by decide) (by decide)
            have ka_54 := atp.fr ka_44 ogfa_52 ha_46 (by decide)
            have ka_55 := GJ.fr gjfa_41 ogfa_52 ha_48 (by decide)
            have ka_56 := atp.fr ktfa_41 ogfa_52 ha_47 (by decide)
            refine lv_iinc (v := 1) (lv' := [(6, .int 1), (5, .int 0), (4, .ref qa_7), (0, .ref u0), (1, .int u1), (2, .int u2), (3, .int u3)]) hx hb dX10_hankel_85 hl (k := 0) rfl (by decide) (by decide) rfl (fun ls hl => ?_)
            refine lv_goto (tgt := 55) hx hb dX10_hankel_88 (by decide) ?_
            refine lv_iload hx hb dX10_hankel_55 (lv_at hl 0 rfl) ?_
            refine lv_iload_n hx hb dX10_hankel_57 rfl (lv_at hl 6 rfl) ?_
            refine lv_icmp_ge (tgt := 91) hx hb dX10_hankel_58 (by decide) (fun ca_57 => ?_) (fun ca_57 => ?_)
            · have ca_58 : u3.toInt ≤ 1 := Int32.le_iff_toInt_le.mp ca_57
              have ia_59 : iv u3 1 1 := iv_El ca_58 ia_26 (iv_k (x := 1) (k := 1) rfl) (by decide)
              refine lv_iinc (v := 1) (lv' := [(5, .int 1), (6, .int 1), (4, .ref qa_7), (0, .ref u0), (1, .int u1), (2, .int u2), (3, .int u3)]) hx hb dX10_hankel_91 hl (k := 1) rfl (by decide) (by decide) rfl (fun ls hl => ?_)
              refine lv_goto (tgt := 46) hx hb dX10_hankel_94 (by decide) ?_
              have L46 : ∀ (n46 : Nat) (ls : Array Slot) (f_46 : hM) (H : Heap) (locs : List Loc) (v46_5 : Int32) (g46_qa_7_3 : Nat), 8 - v46_5.toInt < (n46 : Int) → lv_has ls 7 [(0, .ref u0), (2, .int u2), (3, .int u3), (4, .ref qa_7), (5, .int v46_5)] → hw D b0 s.heap f_46 H locs → TI G 9 τfa_41 f_46 → Fr [0, 1, 3, 20, 21, 22, 23, 24, 25, 40, 41, 42, 1004, 20001, 20002, 20007, 20008, 20009, 20010, 20011, 22001, 22002, 22003, 22004, 23001, 23002, 23003, 23004, 40002, 40003, 40004] τfa_41 fa_41 f_46 → iv u2 0 4 → iv u3 1 8 → iv v46_5 1 8 → τfa_41 g46_qa_7_3 = 3 → atp f_46 u0 (fd 2 (.ref gq)) → GJ τfa_41 f_46 gq rq mq → atp f_46 qa_7 (fd 3 (.ref g46_qa_7_3)) → W p l e rm_s_X10_hankel s m args below meth c H locs 1 305 Q (F0 m 46 ls []) := by
                intro n46
                induction n46 with
                | zero => intro ls f_46 H locs v46_5 g46_qa_7_3 hm46 hl h t_46 o_46 jv46_2 jv46_3 iv46_5 tg46_qa_7_3 k46_u0_2 k46_gq_GJ k46_qa_7_3; exact absurd hm46 (by omega)
                | succ n46 ih46 =>
                  intro ls f_46 H locs v46_5 g46_qa_7_3 hm46 hl h t_46 o_46 jv46_2 jv46_3 iv46_5 tg46_qa_7_3 k46_u0_2 k46_gq_GJ k46_qa_7_3
                  refine lv_iload hx hb dX10_hankel_46 (lv_at hl 4 rfl) ?_
                  refine lv_iload_n hx hb dX10_hankel_48 rfl (lv_at hl 2 rfl) ?_
                  refine lv_icmp_ge (tgt := 97) hx hb dX10_hankel_49 (by decide) (fun cab46_1 => ?_) (fun cab46_1 => ?_)
                  · have cab46_2 : u3.toInt ≤ v46_5.toInt := Int32.le_iff_toInt_le.mp cab46_1
                    refine lv_aload_n hx hb dX10_hankel_97 rfl (lv_at hl 0 rfl) ?_
                    refine t_getr (tq := 40) C h t_46 ha_46 (by decide) wf_10 rfl fl_X10_47 dX10_hankel_98 (fun qab46_3 tqab46_3 => ?_)
                    obtain ⟨_, rab46_4⟩ := t_rec t_46 tqab46_3 (by decide) wf_40
                    refine k_i (r_V C h hl (As := []) (rest := []) (s_X4_determinant l D G b0 τfa_41 f_46 t_46 qab46_3 tqab46_3) rab46_4 (Cn := RX4) (T := TX4) (N := 4) rfl rfl mk_X4_determinant w_827 w_828 w_829 w_830 ⟨Nat.le_of_ble_eq_true rfl, Nat.le_of_ble_eq_true rfl⟩ rfl (Nat.le_of_ble_eq_true rfl) ⟨Nat.le_of_ble_eq_true rfl, Nat.le_of_ble_eq_true rfl⟩ rfl dX10_hankel_101) h (fun rab46_5 fab46_6 H locs pab46_7 h => ?_)
                    obtain ⟨irab46_5, tfab46_6, ogfab46_6⟩ := pab46_7
                    have ofab46_6 : Fr [0, 1, 3, 20, 21, 22, 23, 24, 25, 40, 41, 42, 1004, 20001, 20002, 20007, 20008, 20009, 20010, 20011, 22001, 22002, 22003, 22004, 23001, 23002, 23003, 23004, 40002, 40003, 40004] τfa_41 fa_41 fab46_6 := Fr.tr o_46 ogfab46_6 (by decide) (by decide)
                    have kab46_8 := atp.fr k46_u0_2 ogfab46_6 ha_46 (by decide)
                    have kab46_9 := GJ.fr k46_gq_GJ ogfab46_6 ha_48 (by decide)
                    have kab46_10 := atp.fr k46_qa_7_3 ogfab46_6 ha_47 (by decide)
                    exact u_iret C h hr hQ (⟨τfa_41, xfa_41, irab46_5, tfab46_6, (Fr.tr Ofa_41 (Fr.cv xfa_41 ofab46_6 (by decide) (fun _ h_ => h_)) (fun _ h_ => h_) (fun _ h_ => h_)), kab46_9⟩) (Nat.le_of_ble_eq_true rfl) (Nat.le_of_ble_eq_true rfl) dX10_hankel_104
                  · have cab46_2 : v46_5.toInt < u3.toInt := Int32.lt_iff_toInt_lt.mp (iv_nle cab46_1)
                    have iab46_3 : iv v46_5 1 7 := iv_Ll cab46_2 iv46_5 jv46_3 (by decide)
                    have iab46_4 : iv u3 2 8 := iv_Lr cab46_2 iv46_5 jv46_3 (by decide)
                    refine lv_iconst (v := 0) hx hb dX10_hankel_52 (by decide) ?_
                    refine lv_istore (lv' := [(6, .int 0), (0, .ref u0), (2, .int u2), (3, .int u3), (4, .ref qa_7), (5, .int v46_5)]) hx hb dX10_hankel_53 hl (by decide) rfl (fun ls hl => ?_)
                    have L55 : ∀ (n55 : Nat) (ls : Array Slot) (f_55 : hM) (H : Heap) (locs : List Loc) (v55_6 : Int32) (g55_qa_7_3 : Nat), 8 - v55_6.toInt < (n55 : Int) → lv_has ls 7 [(0, .ref u0), (2, .int u2), (3, .int u3), (4, .ref qa_7), (5, .int v46_5), (6, .int v55_6)] → hw D b0 s.heap f_55 H locs → TI G 9 τfa_41 f_55 → Fr [0, 1, 3, 20, 21, 22, 23, 24, 25, 40, 41, 42, 1004, 20001, 20002, 20007, 20008, 20009, 20010, 20011, 22001, 22002, 22003, 22004, 23001, 23002, 23003, 23004, 40002, 40003, 40004] τfa_41 fa_41 f_55 → iv u2 0 4 → iv u3 2 8 → iv v46_5 1 7 → iv v55_6 0 8 → τfa_41 g55_qa_7_3 = 3 → atp f_55 u0 (fd 2 (.ref gq)) → GJ τfa_41 f_55 gq rq mq → atp f_55 qa_7 (fd 3 (.ref g55_qa_7_3)) → W p l e rm_s_X10_hankel s m args below meth c H locs 1 305 Q (F0 m 55 ls []) := by
                      intro n55
                      induction n55 with
                      | zero => intro ls f_55 H locs v55_6 g55_qa_7_3 hm55 hl h t_55 o_55 jv55_2 jv55_3 jv55_5 iv55_6 tg55_qa_7_3 k55_u0_2 k55_gq_GJ k55_qa_7_3; exact absurd hm55 (by omega)
                      | succ n55 ih55 =>
                        intro ls f_55 H locs v55_6 g55_qa_7_3 hm55 hl h t_55 o_55 jv55_2 jv55_3 jv55_5 iv55_6 tg55_qa_7_3 k55_u0_2 k55_gq_GJ k55_qa_7_3
                        refine lv_iload hx hb dX10_hankel_55 (lv_at hl 5 rfl) ?_
                        refine lv_iload_n hx hb dX10_hankel_57 rfl (lv_at hl 2 rfl) ?_
                        refine lv_icmp_ge (tgt := 91) hx hb dX10_hankel_58 (by decide) (fun cab46b55_1 => ?_) (fun cab46b55_1 => ?_)
                        · have cab46b55_2 : u3.toInt ≤ v55_6.toInt := Int32.le_iff_toInt_le.mp cab46b55_1
                          have iab46b55_3 : iv v55_6 2 8 := iv_Er cab46b55_2 jv55_3 iv55_6 (by decide)
                          refine i_inc hx hb dX10_hankel_91 hl (k := 4) rfl jv55_5 rfl (lo := 2) (hi := 8) (by decide) (by decide) (lv' := fun v => [(5, .int v), (0, .ref u0), (2, .int u2), (3, .int u3), (4, .ref qa_7), (6, .int v55_6)]) (fun _ => rfl) (fun zab46b55_4 ls ezab46b55_4 mzab46b55_4 izab46b55_4 hl => ?_)
                          refine lv_goto (tgt := 46) hx hb dX10_hankel_94 (by decide) ?_
                          exact ih46 ls f_55 H locs zab46b55_4 g55_qa_7_3 (show 8 - zab46b55_4.toInt < _ by omega) (lv_cons hl 1 rfl (lv_cons hl 2 rfl (lv_cons hl 3 rfl (lv_cons hl 4 rfl (lv_cons hl 0 rfl (lv_nil hl)))))) h t_55 o_55 jv55_2 (iv_w jv55_3 (by decide)) (iv_w izab46b55_4 (by decide)) tg55_qa_7_3 k55_u0_2 k55_gq_GJ k55_qa_7_3
                        · have cab46b55_2 : v55_6.toInt < u3.toInt := Int32.lt_iff_toInt_lt.mp (iv_nle cab46b55_1)
                          have iab46b55_3 : iv v55_6 0 7 := iv_Ll cab46b55_2 iv55_6 jv55_3 (by decide)
                          refine lv_aload_n hx hb dX10_hankel_61 rfl (lv_at hl 0 rfl) ?_
                          refine t_getr (tq := 40) C h t_55 ha_46 (by decide) wf_10 rfl fl_X10_47 dX10_hankel_62 (fun qab46b55_4 tqab46b55_4 => ?_)
                          refine lv_iload hx hb dX10_hankel_65 (lv_at hl 4 rfl) ?_
                          refine lv_iload hx hb dX10_hankel_67 (lv_at hl 5 rfl) ?_
                          refine lv_aload_n hx hb dX10_hankel_69 rfl (lv_at hl 0 rfl) ?_
                          refine lv_aload hx hb dX10_hankel_70 (lv_at hl 3 rfl) ?_
                          refine lv_iload_n hx hb dX10_hankel_72 rfl (lv_at hl 1 rfl) ?_
                          refine lv_iload hx hb dX10_hankel_73 (lv_at hl 4 rfl) ?_
                          refine lv_iload hx hb dX10_hankel_75 (lv_at hl 5 rfl) ?_
                          refine i_add hx hb dX10_hankel_77 jv55_5 iab46b55_3 (lo := 1) (hi := 14) (by decide) (fun zab46b55_5 ezab46b55_5 mzab46b55_5 izab46b55_5 => ?_)
                          obtain ⟨_, rab46b55_6⟩ := t_rec t_55 ha_46 (by decide) wf_10
                          refine k_i (r_V C h hl (As := [.ref qa_7, .int u2, .int zab46b55_5]) (rest := [.int v55_6, .int v46_5, .ref qab46b55_4]) (s_X10_termB l D G b0 τfa_41 f_55 t_55 u0 ha_46 qa_7 ha_47 u2 jv55_2 zab46b55_5 (iv_w izab46b55_5 (by decide)) g55_qa_7_3 tg55_qa_7_3 k55_qa_7_3) rab46b55_6 (Cn := RX10) (T := TX10) (N := 10) rfl rfl mk_X10_term w_724 w_726 w_17 w_727 ⟨Nat.le_of_ble_eq_true rfl, Nat.le_of_ble_eq_true rfl⟩ rfl (Nat.le_of_ble_eq_true rfl) ⟨Nat.le_of_ble_eq_true rfl, Nat.le_of_ble_eq_true rfl⟩ rfl dX10_hankel_78) h (fun rab46b55_7 fab46b55_8 H locs pab46b55_9 h => ?_)
                          obtain ⟨irab46b55_7, tfab46b55_8, ogfab46b55_8, ⟨ztfab46b55_8, ttfab46b55_8, ktfab46b55_8⟩⟩ := pab46b55_9
                          have egfab46b55_8 := Fr.nil2 ogfab46b55_8
                          subst egfab46b55_8
                          refine lv_i2l hx hb dX10_hankel_81 rfl (i_topL irab46b55_7 (fun wab46b55_10 ewab46b55_10 mwab46b55_10 iwab46b55_10 => ?_))
                          obtain ⟨_, rab46b55_11⟩ := t_rec t_55 tqab46b55_4 (by decide) wf_40
                          refine k_v (r_V C h hl (As := [.int v46_5, .int v55_6, .long wab46b55_10]) (rest := []) (s_X4_put l D G b0 τfa_41 f_55 t_55 qab46b55_4 tqab46b55_4 v46_5 (iv_w jv55_5 (by decide)) v55_6 (iv_w iab46b55_3 (by decide)) wab46b55_10) rab46b55_11 (Cn := RX4) (T := TX4) (N := 4) rfl rfl mk_X4_put w_792 w_793 w_794 w_795 ⟨Nat.le_of_ble_eq_true rfl, Nat.le_of_ble_eq_true rfl⟩ rfl (Nat.le_of_ble_eq_true rfl) ⟨Nat.le_of_ble_eq_true rfl, Nat.le_of_ble_eq_true rfl⟩ rfl dX10_hankel_82) h (fun fab46b55_13 H locs pab46b55_14 h => ?_)
                          obtain ⟨tfab46b55_13, ogfab46b55_13⟩ := pab46b55_14
                          have ofab46b55_13 : Fr [0, 1, 3, 20, 21, 22, 23, 24, 25, 40, 41, 42, 1004, 20001, 20002, 20007, 20008, 20009, 20010, 20011, 22001, 22002, 22003, 22004, 23001, 23002, 23003, 23004, 40002, 40003, 40004] τfa_41 fa_41 fab46b55_13 := Fr.tr o_55 ogfab46b55_13 (by decide) (by decide)
                          have kab46b55_15 := atp.fr k55_u0_2 ogfab46b55_13 ha_46 (by decide)
                          have kab46b55_16 := GJ.fr k55_gq_GJ ogfab46b55_13 ha_48 (by decide)
                          have kab46b55_17 := atp.fr ktfab46b55_8 ogfab46b55_13 ha_47 (by decide)
                          refine i_inc hx hb dX10_hankel_85 hl (k := 5) rfl iab46b55_3 rfl (lo := 1) (hi := 8) (by decide) (by decide) (lv' := fun v => [(6, .int v), (0, .ref u0), (2, .int u2), (3, .int u3), (4, .ref qa_7), (5, .int v46_5)]) (fun _ => rfl) (fun zab46b55_18 ls ezab46b55_18 mzab46b55_18 izab46b55_18 hl => ?_)
                          refine lv_goto (tgt := 55) hx hb dX10_hankel_88 (by decide) ?_
                          exact ih55 ls fab46b55_13 H locs zab46b55_18 ztfab46b55_8 (show 8 - zab46b55_18.toInt < _ by omega) (lv_cons hl 1 rfl (lv_cons hl 2 rfl (lv_cons hl 3 rfl (lv_cons hl 4 rfl (lv_cons hl 5 rfl (lv_cons hl 0 rfl (lv_nil hl))))))) h tfab46b55_13 ofab46b55_13 jv55_2 jv55_3 jv55_5 (iv_w izab46b55_18 (by decide)) ttfab46b55_8 kab46b55_15 kab46b55_16 kab46b55_17
                    exact L55 9 ls f_46 H locs 0 g46_qa_7_3 (by decide) (lv_cons hl 1 rfl (lv_cons hl 2 rfl (lv_cons hl 3 rfl (lv_cons hl 4 rfl (lv_cons hl 5 rfl (lv_cons hl 0 rfl (lv_nil hl))))))) h t_46 o_46 jv46_2 iab46_4 iab46_3 ⟨by decide, by decide⟩ tg46_qa_7_3 k46_u0_2 k46_gq_GJ k46_qa_7_3
              exact L46 8 ls fa_52 H locs 1 ztfa_41 (by decide) (lv_cons hl 3 rfl (lv_cons hl 5 rfl (lv_cons hl 6 rfl (lv_cons hl 2 rfl (lv_cons hl 0 rfl (lv_nil hl)))))) h tfa_52 ofa_52 ia_15 (iv_w ia_59 (by decide)) ⟨by decide, by decide⟩ ttfa_41 ka_54 ka_55 ka_56
            · have ca_58 : 1 < u3.toInt := Int32.lt_iff_toInt_lt.mp (iv_nle ca_57)
              have ia_59 : iv u3 2 8 := iv_Lr ca_58 (iv_k (x := 1) (k := 1) rfl) ia_26 (by decide)
              refine lv_aload_n hx hb dX10_hankel_61 rfl (lv_at hl 3 rfl) ?_
              refine t_getr (tq := 40) C h tfa_52 ha_46 (by decide) wf_10 rfl fl_X10_47 dX10_hankel_62 (fun qa_60 tqa_60 => ?_)
              refine lv_iload hx hb dX10_hankel_65 (lv_at hl 1 rfl) ?_
              refine lv_iload hx hb dX10_hankel_67 (lv_at hl 0 rfl) ?_
              refine lv_aload_n hx hb dX10_hankel_69 rfl (lv_at hl 3 rfl) ?_
              refine lv_aload hx hb dX10_hankel_70 (lv_at hl 2 rfl) ?_
              refine lv_iload_n hx hb dX10_hankel_72 rfl (lv_at hl 5 rfl) ?_
              refine lv_iload hx hb dX10_hankel_73 (lv_at hl 1 rfl) ?_
              refine lv_iload hx hb dX10_hankel_75 (lv_at hl 0 rfl) ?_
              refine lv_iadd hx hb dX10_hankel_77 (lv_topi (fun x_ e_ => ?_))
              obtain rfl : 1 = x_ := by rw [e_]; decide
              obtain ⟨_, ra_61⟩ := t_rec tfa_52 ha_46 (by decide) wf_10
              refine k_i (r_V C h hl (As := [.ref qa_7, .int u2, .int 1]) (rest := [.int 1, .int 0, .ref qa_60]) (s_X10_termB l D G b0 τfa_41 fa_52 tfa_52 u0 ha_46 qa_7 ha_47 u2 ia_15 1 (iv_w (iv_k (x := 1) (k := 1) rfl) (by decide)) ztfa_41 ttfa_41 ka_56) ra_61 (Cn := RX10) (T := TX10) (N := 10) rfl rfl mk_X10_term w_724 w_726 w_17 w_727 ⟨Nat.le_of_ble_eq_true rfl, Nat.le_of_ble_eq_true rfl⟩ rfl (Nat.le_of_ble_eq_true rfl) ⟨Nat.le_of_ble_eq_true rfl, Nat.le_of_ble_eq_true rfl⟩ rfl dX10_hankel_78) h (fun ra_62 fa_63 H locs pa_64 h => ?_)
              obtain ⟨ira_62, tfa_63, ogfa_63, ⟨ztfa_63, ttfa_63, ktfa_63⟩⟩ := pa_64
              have egfa_63 := Fr.nil2 ogfa_63
              subst egfa_63
              refine lv_i2l hx hb dX10_hankel_81 rfl (i_topL ira_62 (fun wa_65 ewa_65 mwa_65 iwa_65 => ?_))
              obtain ⟨_, ra_66⟩ := t_rec tfa_52 tqa_60 (by decide) wf_40
              refine k_v (r_V C h hl (As := [.int 0, .int 1, .long wa_65]) (rest := []) (s_X4_put l D G b0 τfa_41 fa_52 tfa_52 qa_60 tqa_60 0 (iv_w (iv_k (x := 0) (k := 0) rfl) (by decide)) 1 (iv_w (iv_k (x := 1) (k := 1) rfl) (by decide)) wa_65) ra_66 (Cn := RX4) (T := TX4) (N := 4) rfl rfl mk_X4_put w_792 w_793 w_794 w_795 ⟨Nat.le_of_ble_eq_true rfl, Nat.le_of_ble_eq_true rfl⟩ rfl (Nat.le_of_ble_eq_true rfl) ⟨Nat.le_of_ble_eq_true rfl, Nat.le_of_ble_eq_true rfl⟩ rfl dX10_hankel_82) h (fun fa_68 H locs pa_69 h => ?_)
              obtain ⟨tfa_68, ogfa_68⟩ := pa_69
              have ofa_68 : Fr [0, 1, 3, 20, 21, 22, 23, 24, 25, 40, 41, 42, 1004, 20001, 20002, 20007, 20008, 20009, 20010, 20011, 22001, 22002, 22003, 22004, 23001, 23002, 23003, 23004, 40002, 40003, 40004] τfa_41 fa_41 fa_68 := Fr.tr ofa_52 ogfa_68 (by decide) (by decide)
              have ka_70 := atp.fr ka_54 ogfa_68 ha_46 (by decide)
              have ka_71 := GJ.fr ka_55 ogfa_68 ha_48 (by decide)
              have ka_72 := atp.fr ktfa_63 ogfa_68 ha_47 (by decide)
              refine lv_iinc (v := 2) (lv' := [(6, .int 2), (5, .int 0), (4, .ref qa_7), (0, .ref u0), (1, .int u1), (2, .int u2), (3, .int u3)]) hx hb dX10_hankel_85 hl (k := 0) rfl (by decide) (by decide) rfl (fun ls hl => ?_)
              refine lv_goto (tgt := 55) hx hb dX10_hankel_88 (by decide) ?_
              refine lv_iload hx hb dX10_hankel_55 (lv_at hl 0 rfl) ?_
              refine lv_iload_n hx hb dX10_hankel_57 rfl (lv_at hl 6 rfl) ?_
              refine lv_icmp_ge (tgt := 91) hx hb dX10_hankel_58 (by decide) (fun ca_73 => ?_) (fun ca_73 => ?_)
              · have ca_74 : u3.toInt ≤ 2 := Int32.le_iff_toInt_le.mp ca_73
                have ia_75 : iv u3 2 2 := iv_El ca_74 ia_59 (iv_k (x := 2) (k := 2) rfl) (by decide)
                refine lv_iinc (v := 1) (lv' := [(5, .int 1), (6, .int 2), (4, .ref qa_7), (0, .ref u0), (1, .int u1), (2, .int u2), (3, .int u3)]) hx hb dX10_hankel_91 hl (k := 1) rfl (by decide) (by decide) rfl (fun ls hl => ?_)
                refine lv_goto (tgt := 46) hx hb dX10_hankel_94 (by decide) ?_
                have L46 : ∀ (n46 : Nat) (ls : Array Slot) (f_46 : hM) (H : Heap) (locs : List Loc) (v46_5 : Int32) (g46_qa_7_3 : Nat), 8 - v46_5.toInt < (n46 : Int) → lv_has ls 7 [(0, .ref u0), (2, .int u2), (3, .int u3), (4, .ref qa_7), (5, .int v46_5)] → hw D b0 s.heap f_46 H locs → TI G 9 τfa_41 f_46 → Fr [0, 1, 3, 20, 21, 22, 23, 24, 25, 40, 41, 42, 1004, 20001, 20002, 20007, 20008, 20009, 20010, 20011, 22001, 22002, 22003, 22004, 23001, 23002, 23003, 23004, 40002, 40003, 40004] τfa_41 fa_41 f_46 → iv u2 0 4 → iv u3 1 8 → iv v46_5 1 8 → τfa_41 g46_qa_7_3 = 3 → atp f_46 u0 (fd 2 (.ref gq)) → GJ τfa_41 f_46 gq rq mq → atp f_46 qa_7 (fd 3 (.ref g46_qa_7_3)) → W p l e rm_s_X10_hankel s m args below meth c H locs 1 305 Q (F0 m 46 ls []) := by
                  intro n46
                  induction n46 with
                  | zero => intro ls f_46 H locs v46_5 g46_qa_7_3 hm46 hl h t_46 o_46 jv46_2 jv46_3 iv46_5 tg46_qa_7_3 k46_u0_2 k46_gq_GJ k46_qa_7_3; exact absurd hm46 (by omega)
                  | succ n46 ih46 =>
                    intro ls f_46 H locs v46_5 g46_qa_7_3 hm46 hl h t_46 o_46 jv46_2 jv46_3 iv46_5 tg46_qa_7_3 k46_u0_2 k46_gq_GJ k46_qa_7_3
                    refine lv_iload hx hb dX10_hankel_46 (lv_at hl 4 rfl) ?_
                    refine lv_iload_n hx hb dX10_hankel_48 rfl (lv_at hl 2 rfl) ?_
                    refine lv_icmp_ge (tgt := 97) hx hb dX10_hankel_49 (by decide) (fun cab46_1 => ?_) (fun cab46_1 => ?_)
                    · have cab46_2 : u3.toInt ≤ v46_5.toInt := Int32.le_iff_toInt_le.mp cab46_1
                      refine lv_aload_n hx hb dX10_hankel_97 rfl (lv_at hl 0 rfl) ?_
                      refine t_getr (tq := 40) C h t_46 ha_46 (by decide) wf_10 rfl fl_X10_47 dX10_hankel_98 (fun qab46_3 tqab46_3 => ?_)
                      obtain ⟨_, rab46_4⟩ := t_rec t_46 tqab46_3 (by decide) wf_40
                      refine k_i (r_V C h hl (As := []) (rest := []) (s_X4_determinant l D G b0 τfa_41 f_46 t_46 qab46_3 tqab46_3) rab46_4 (Cn := RX4) (T := TX4) (N := 4) rfl rfl mk_X4_determinant w_827 w_828 w_829 w_830 ⟨Nat.le_of_ble_eq_true rfl, Nat.le_of_ble_eq_true rfl⟩ rfl (Nat.le_of_ble_eq_true rfl) ⟨Nat.le_of_ble_eq_true rfl, Nat.le_of_ble_eq_true rfl⟩ rfl dX10_hankel_101) h (fun rab46_5 fab46_6 H locs pab46_7 h => ?_)
                      obtain ⟨irab46_5, tfab46_6, ogfab46_6⟩ := pab46_7
                      have ofab46_6 : Fr [0, 1, 3, 20, 21, 22, 23, 24, 25, 40, 41, 42, 1004, 20001, 20002, 20007, 20008, 20009, 20010, 20011, 22001, 22002, 22003, 22004, 23001, 23002, 23003, 23004, 40002, 40003, 40004] τfa_41 fa_41 fab46_6 := Fr.tr o_46 ogfab46_6 (by decide) (by decide)
                      have kab46_8 := atp.fr k46_u0_2 ogfab46_6 ha_46 (by decide)
                      have kab46_9 := GJ.fr k46_gq_GJ ogfab46_6 ha_48 (by decide)
                      have kab46_10 := atp.fr k46_qa_7_3 ogfab46_6 ha_47 (by decide)
                      exact u_iret C h hr hQ (⟨τfa_41, xfa_41, irab46_5, tfab46_6, (Fr.tr Ofa_41 (Fr.cv xfa_41 ofab46_6 (by decide) (fun _ h_ => h_)) (fun _ h_ => h_) (fun _ h_ => h_)), kab46_9⟩) (Nat.le_of_ble_eq_true rfl) (Nat.le_of_ble_eq_true rfl) dX10_hankel_104
                    · have cab46_2 : v46_5.toInt < u3.toInt := Int32.lt_iff_toInt_lt.mp (iv_nle cab46_1)
                      have iab46_3 : iv v46_5 1 7 := iv_Ll cab46_2 iv46_5 jv46_3 (by decide)
                      have iab46_4 : iv u3 2 8 := iv_Lr cab46_2 iv46_5 jv46_3 (by decide)
                      refine lv_iconst (v := 0) hx hb dX10_hankel_52 (by decide) ?_
                      refine lv_istore (lv' := [(6, .int 0), (0, .ref u0), (2, .int u2), (3, .int u3), (4, .ref qa_7), (5, .int v46_5)]) hx hb dX10_hankel_53 hl (by decide) rfl (fun ls hl => ?_)
                      have L55 : ∀ (n55 : Nat) (ls : Array Slot) (f_55 : hM) (H : Heap) (locs : List Loc) (v55_6 : Int32) (g55_qa_7_3 : Nat), 8 - v55_6.toInt < (n55 : Int) → lv_has ls 7 [(0, .ref u0), (2, .int u2), (3, .int u3), (4, .ref qa_7), (5, .int v46_5), (6, .int v55_6)] → hw D b0 s.heap f_55 H locs → TI G 9 τfa_41 f_55 → Fr [0, 1, 3, 20, 21, 22, 23, 24, 25, 40, 41, 42, 1004, 20001, 20002, 20007, 20008, 20009, 20010, 20011, 22001, 22002, 22003, 22004, 23001, 23002, 23003, 23004, 40002, 40003, 40004] τfa_41 fa_41 f_55 → iv u2 0 4 → iv u3 2 8 → iv v46_5 1 7 → iv v55_6 0 8 → τfa_41 g55_qa_7_3 = 3 → atp f_55 u0 (fd 2 (.ref gq)) → GJ τfa_41 f_55 gq rq mq → atp f_55 qa_7 (fd 3 (.ref g55_qa_7_3)) → W p l e rm_s_X10_hankel s m args below meth c H locs 1 305 Q (F0 m 55 ls []) := by
                        intro n55
                        induction n55 with
                        | zero => intro ls f_55 H locs v55_6 g55_qa_7_3 hm55 hl h t_55 o_55 jv55_2 jv55_3 jv55_5 iv55_6 tg55_qa_7_3 k55_u0_2 k55_gq_GJ k55_qa_7_3; exact absurd hm55 (by omega)
                        | succ n55 ih55 =>
                          intro ls f_55 H locs v55_6 g55_qa_7_3 hm55 hl h t_55 o_55 jv55_2 jv55_3 jv55_5 iv55_6 tg55_qa_7_3 k55_u0_2 k55_gq_GJ k55_qa_7_3
                          refine lv_iload hx hb dX10_hankel_55 (lv_at hl 5 rfl) ?_
                          refine lv_iload_n hx hb dX10_hankel_57 rfl (lv_at hl 2 rfl) ?_
                          refine lv_icmp_ge (tgt := 91) hx hb dX10_hankel_58 (by decide) (fun cab46b55_1 => ?_) (fun cab46b55_1 => ?_)
                          · have cab46b55_2 : u3.toInt ≤ v55_6.toInt := Int32.le_iff_toInt_le.mp cab46b55_1
                            have iab46b55_3 : iv v55_6 2 8 := iv_Er cab46b55_2 jv55_3 iv55_6 (by decide)
                            refine i_inc hx hb dX10_hankel_91 hl (k := 4) rfl jv55_5 rfl (lo := 2) (hi := 8) (by decide) (by decide) (lv' := fun v => [(5, .int v), (0, .ref u0), (2, .int u2), (3, .int u3), (4, .ref qa_7), (6, .int v55_6)]) (fun _ => rfl) (fun zab46b55_4 ls ezab46b55_4 mzab46b55_4 izab46b55_4 hl => ?_)
                            refine lv_goto (tgt := 46) hx hb dX10_hankel_94 (by decide) ?_
                            exact ih46 ls f_55 H locs zab46b55_4 g55_qa_7_3 (show 8 - zab46b55_4.toInt < _ by omega) (lv_cons hl 1 rfl (lv_cons hl 2 rfl (lv_cons hl 3 rfl (lv_cons hl 4 rfl (lv_cons hl 0 rfl (lv_nil hl)))))) h t_55 o_55 jv55_2 (iv_w jv55_3 (by decide)) (iv_w izab46b55_4 (by decide)) tg55_qa_7_3 k55_u0_2 k55_gq_GJ k55_qa_7_3
                          · have cab46b55_2 : v55_6.toInt < u3.toInt := Int32.lt_iff_toInt_lt.mp (iv_nle cab46b55_1)
                            have iab46b55_3 : iv v55_6 0 7 := iv_Ll cab46b55_2 iv55_6 jv55_3 (by decide)
                            refine lv_aload_n hx hb dX10_hankel_61 rfl (lv_at hl 0 rfl) ?_
                            refine t_getr (tq := 40) C h t_55 ha_46 (by decide) wf_10 rfl fl_X10_47 dX10_hankel_62 (fun qab46b55_4 tqab46b55_4 => ?_)
                            refine lv_iload hx hb dX10_hankel_65 (lv_at hl 4 rfl) ?_
                            refine lv_iload hx hb dX10_hankel_67 (lv_at hl 5 rfl) ?_
                            refine lv_aload_n hx hb dX10_hankel_69 rfl (lv_at hl 0 rfl) ?_
                            refine lv_aload hx hb dX10_hankel_70 (lv_at hl 3 rfl) ?_
                            refine lv_iload_n hx hb dX10_hankel_72 rfl (lv_at hl 1 rfl) ?_
                            refine lv_iload hx hb dX10_hankel_73 (lv_at hl 4 rfl) ?_
                            refine lv_iload hx hb dX10_hankel_75 (lv_at hl 5 rfl) ?_
                            refine i_add hx hb dX10_hankel_77 jv55_5 iab46b55_3 (lo := 1) (hi := 14) (by decide) (fun zab46b55_5 ezab46b55_5 mzab46b55_5 izab46b55_5 => ?_)
                            obtain ⟨_, rab46b55_6⟩ := t_rec t_55 ha_46 (by decide) wf_10
                            refine k_i (r_V C h hl (As := [.ref qa_7, .int u2, .int zab46b55_5]) (rest := [.int v55_6, .int v46_5, .ref qab46b55_4]) (s_X10_termB l D G b0 τfa_41 f_55 t_55 u0 ha_46 qa_7 ha_47 u2 jv55_2 zab46b55_5 (iv_w izab46b55_5 (by decide)) g55_qa_7_3 tg55_qa_7_3 k55_qa_7_3) rab46b55_6 (Cn := RX10) (T := TX10) (N := 10) rfl rfl mk_X10_term w_724 w_726 w_17 w_727 ⟨Nat.le_of_ble_eq_true rfl, Nat.le_of_ble_eq_true rfl⟩ rfl (Nat.le_of_ble_eq_true rfl) ⟨Nat.le_of_ble_eq_true rfl, Nat.le_of_ble_eq_true rfl⟩ rfl dX10_hankel_78) h (fun rab46b55_7 fab46b55_8 H locs pab46b55_9 h => ?_)
                            obtain ⟨irab46b55_7, tfab46b55_8, ogfab46b55_8, ⟨ztfab46b55_8, ttfab46b55_8, ktfab46b55_8⟩⟩ := pab46b55_9
                            have egfab46b55_8 := Fr.nil2 ogfab46b55_8
                            subst egfab46b55_8
                            refine lv_i2l hx hb dX10_hankel_81 rfl (i_topL irab46b55_7 (fun wab46b55_10 ewab46b55_10 mwab46b55_10 iwab46b55_10 => ?_))
                            obtain ⟨_, rab46b55_11⟩ := t_rec t_55 tqab46b55_4 (by decide) wf_40
                            refine k_v (r_V C h hl (As := [.int v46_5, .int v55_6, .long wab46b55_10]) (rest := []) (s_X4_put l D G b0 τfa_41 f_55 t_55 qab46b55_4 tqab46b55_4 v46_5 (iv_w jv55_5 (by decide)) v55_6 (iv_w iab46b55_3 (by decide)) wab46b55_10) rab46b55_11 (Cn := RX4) (T := TX4) (N := 4) rfl rfl mk_X4_put w_792 w_793 w_794 w_795 ⟨Nat.le_of_ble_eq_true rfl, Nat.le_of_ble_eq_true rfl⟩ rfl (Nat.le_of_ble_eq_true rfl) ⟨Nat.le_of_ble_eq_true rfl, Nat.le_of_ble_eq_true rfl⟩ rfl dX10_hankel_82) h (fun fab46b55_13 H locs pab46b55_14 h => ?_)
                            obtain ⟨tfab46b55_13, ogfab46b55_13⟩ := pab46b55_14
                            have ofab46b55_13 : Fr [0, 1, 3, 20, 21, 22, 23, 24, 25, 40, 41, 42, 1004, 20001, 20002, 20007, 20008, 20009, 20010, 20011, 22001, 22002, 22003, 22004, 23001, 23002, 23003, 23004, 40002, 40003, 40004] τfa_41 fa_41 fab46b55_13 := Fr.tr o_55 ogfab46b55_13 (by decide) (by decide)
                            have kab46b55_15 := atp.fr k55_u0_2 ogfab46b55_13 ha_46 (by decide)
                            have kab46b55_16 := GJ.fr k55_gq_GJ ogfab46b55_13 ha_48 (by decide)
                            have kab46b55_17 := atp.fr ktfab46b55_8 ogfab46b55_13 ha_47 (by decide)
                            refine i_inc hx hb dX10_hankel_85 hl (k := 5) rfl iab46b55_3 rfl (lo := 1) (hi := 8) (by decide) (by decide) (lv' := fun v => [(6, .int v), (0, .ref u0), (2, .int u2), (3, .int u3), (4, .ref qa_7), (5, .int v46_5)]) (fun _ => rfl) (fun zab46b55_18 ls ezab46b55_18 mzab46b55_18 izab46b55_18 hl => ?_)
                            refine lv_goto (tgt := 55) hx hb dX10_hankel_88 (by decide) ?_
                            exact ih55 ls fab46b55_13 H locs zab46b55_18 ztfab46b55_8 (show 8 - zab46b55_18.toInt < _ by omega) (lv_cons hl 1 rfl (lv_cons hl 2 rfl (lv_cons hl 3 rfl (lv_cons hl 4 rfl (lv_cons hl 5 rfl (lv_cons hl 0 rfl (lv_nil hl))))))) h tfab46b55_13 ofab46b55_13 jv55_2 jv55_3 jv55_5 (iv_w izab46b55_18 (by decide)) ttfab46b55_8 kab46b55_15 kab46b55_16 kab46b55_17
                      exact L55 9 ls f_46 H locs 0 g46_qa_7_3 (by decide) (lv_cons hl 1 rfl (lv_cons hl 2 rfl (lv_cons hl 3 rfl (lv_cons hl 4 rfl (lv_cons hl 5 rfl (lv_cons hl 0 rfl (lv_nil hl))))))) h t_46 o_46 jv46_2 iab46_4 iab46_3 ⟨by decide, by decide⟩ tg46_qa_7_3 k46_u0_2 k46_gq_GJ k46_qa_7_3
                exact L46 8 ls fa_68 H locs 1 ztfa_63 (by decide) (lv_cons hl 3 rfl (lv_cons hl 5 rfl (lv_cons hl 6 rfl (lv_cons hl 2 rfl (lv_cons hl 0 rfl (lv_nil hl)))))) h tfa_68 ofa_68 ia_15 (iv_w ia_75 (by decide)) ⟨by decide, by decide⟩ ttfa_63 ka_70 ka_71 ka_72
              · have ca_74 : 2 < u3.toInt := Int32.lt_iff_toInt_lt.mp (iv_nle ca_73)
                have ia_75 : iv u3 3 8 := iv_Lr ca_74 (iv_k (x := 2) (k := 2) rfl) ia_59 (by decide)
                refine lv_aload_n hx hb dX10_hankel_61 rfl (lv_at hl 3 rfl) ?_
                refine t_getr (tq := 40) C h tfa_68 ha_46 (by decide) wf_10 rfl fl_X10_47 dX10_hankel_62 (fun qa_76 tqa_76 => ?_)
                refine lv_iload hx hb dX10_hankel_65 (lv_at hl 1 rfl) ?_
                refine lv_iload hx hb dX10_hankel_67 (lv_at hl 0 rfl) ?_
                refine lv_aload_n hx hb dX10_hankel_69 rfl (lv_at hl 3 rfl) ?_
                refine lv_aload hx hb dX10_hankel_70 (lv_at hl 2 rfl) ?_
                refine lv_iload_n hx hb dX10_hankel_72 rfl (lv_at hl 5 rfl) ?_
                refine lv_iload hx hb dX10_hankel_73 (lv_at hl 1 rfl) ?_
                refine lv_iload hx hb dX10_hankel_75 (lv_at hl 0 rfl) ?_
                refine lv_iadd hx hb dX10_hankel_77 (lv_topi (fun x_ e_ => ?_))
                obtain rfl : 2 = x_ := by rw [e_]; decide
                obtain ⟨_, ra_77⟩ := t_rec tfa_68 ha_46 (by decide) wf_10
                refine k_i (r_V C h hl (As := [.ref qa_7, .int u2, .int 2]) (rest := [.int 2, .int 0, .ref qa_76]) (s_X10_termB l D G b0 τfa_41 fa_68 tfa_68 u0 ha_46 qa_7 ha_47 u2 ia_15 2 (iv_w (iv_k (x := 2) (k := 2) rfl) (by decide)) ztfa_63 ttfa_63 ka_72) ra_77 (Cn := RX10) (T := TX10) (N := 10) rfl rfl mk_X10_term w_724 w_726 w_17 w_727 ⟨Nat.le_of_ble_eq_true rfl, Nat.le_of_ble_eq_true rfl⟩ rfl (Nat.le_of_ble_eq_true rfl) ⟨Nat.le_of_ble_eq_true rfl, Nat.le_of_ble_eq_true rfl⟩ rfl dX10_hankel_78) h (fun ra_78 fa_79 H locs pa_80 h => ?_)
                obtain ⟨ira_78, tfa_79, ogfa_79, ⟨ztfa_79, ttfa_79, ktfa_79⟩⟩ := pa_80
                have egfa_79 := Fr.nil2 ogfa_79
                subst egfa_79
                refine lv_i2l hx hb dX10_hankel_81 rfl (i_topL ira_78 (fun wa_81 ewa_81 mwa_81 iwa_81 => ?_))
                obtain ⟨_, ra_82⟩ := t_rec tfa_68 tqa_76 (by decide) wf_40
                refine k_v (r_V C h hl (As := [.int 0, .int 2, .long wa_81]) (rest := []) (s_X4_put l D G b0 τfa_41 fa_68 tfa_68 qa_76 tqa_76 0 (iv_w (iv_k (x := 0) (k := 0) rfl) (by decide)) 2 (iv_w (iv_k (x := 2) (k := 2) rfl) (by decide)) wa_81) ra_82 (Cn := RX4) (T := TX4) (N := 4) rfl rfl mk_X4_put w_792 w_793 w_794 w_795 ⟨Nat.le_of_ble_eq_true rfl, Nat.le_of_ble_eq_true rfl⟩ rfl (Nat.le_of_ble_eq_true rfl) ⟨Nat.le_of_ble_eq_true rfl, Nat.le_of_ble_eq_true rfl⟩ rfl dX10_hankel_82) h (fun fa_84 H locs pa_85 h => ?_)
                obtain ⟨tfa_84, ogfa_84⟩ := pa_85
                have ofa_84 : Fr [0, 1, 3, 20, 21, 22, 23, 24, 25, 40, 41, 42, 1004, 20001, 20002, 20007, 20008, 20009, 20010, 20011, 22001, 22002, 22003, 22004, 23001, 23002, 23003, 23004, 40002, 40003, 40004] τfa_41 fa_41 fa_84 := Fr.tr ofa_68 ogfa_84 (by decide) (by decide)
                have ka_86 := atp.fr ka_70 ogfa_84 ha_46 (by decide)
                have ka_87 := GJ.fr ka_71 ogfa_84 ha_48 (by decide)
                have ka_88 := atp.fr ktfa_79 ogfa_84 ha_47 (by decide)
                refine lv_iinc (v := 3) (lv' := [(6, .int 3), (5, .int 0), (4, .ref qa_7), (0, .ref u0), (1, .int u1), (2, .int u2), (3, .int u3)]) hx hb dX10_hankel_85 hl (k := 0) rfl (by decide) (by decide) rfl (fun ls hl => ?_)
                refine lv_goto (tgt := 55) hx hb dX10_hankel_88 (by decide) ?_
                refine lv_iload hx hb dX10_hankel_55 (lv_at hl 0 rfl) ?_
                refine lv_iload_n hx hb dX10_hankel_57 rfl (lv_at hl 6 rfl) ?_
                refine lv_icmp_ge (tgt := 91) hx hb dX10_hankel_58 (by decide) (fun ca_89 => ?_) (fun ca_89 => ?_)
                · have ca_90 : u3.toInt ≤ 3 := Int32.le_iff_toInt_le.mp ca_89
                  have ia_91 : iv u3 3 3 := iv_El ca_90 ia_75 (iv_k (x := 3) (k := 3) rfl) (by decide)
                  refine lv_iinc (v := 1) (lv' := [(5, .int 1), (6, .int 3), (4, .ref qa_7), (0, .ref u0), (1, .int u1), (2, .int u2), (3, .int u3)]) hx hb dX10_hankel_91 hl (k := 1) rfl (by decide) (by decide) rfl (fun ls hl => ?_)
                  refine lv_goto (tgt := 46) hx hb dX10_hankel_94 (by decide) ?_
                  have L46 : ∀ (n46 : Nat) (ls : Array Slot) (f_46 : hM) (H : Heap) (locs : List Loc) (v46_5 : Int32) (g46_qa_7_3 : Nat), 8 - v46_5.toInt < (n46 : Int) → lv_has ls 7 [(0, .ref u0), (2, .int u2), (3, .int u3), (4, .ref qa_7), (5, .int v46_5)] → hw D b0 s.heap f_46 H locs → TI G 9 τfa_41 f_46 → Fr [0, 1, 3, 20, 21, 22, 23, 24, 25, 40, 41, 42, 1004, 20001, 20002, 20007, 20008, 20009, 20010, 20011, 22001, 22002, 22003, 22004, 23001, 23002, 23003, 23004, 40002, 40003, 40004] τfa_41 fa_41 f_46 → iv u2 0 4 → iv u3 1 8 → iv v46_5 1 8 → τfa_41 g46_qa_7_3 = 3 → atp f_46 u0 (fd 2 (.ref gq)) → GJ τfa_41 f_46 gq rq mq → atp f_46 qa_7 (fd 3 (.ref g46_qa_7_3)) → W p l e rm_s_X10_hankel s m args below meth c H locs 1 305 Q (F0 m 46 ls []) := by
                    intro n46
                    induction n46 with
                    | zero => intro ls f_46 H locs v46_5 g46_qa_7_3 hm46 hl h t_46 o_46 jv46_2 jv46_3 iv46_5 tg46_qa_7_3 k46_u0_2 k46_gq_GJ k46_qa_7_3; exact absurd hm46 (by omega)
                    | succ n46 ih46 =>
                      intro ls f_46 H locs v46_5 g46_qa_7_3 hm46 hl h t_46 o_46 jv46_2 jv46_3 iv46_5 tg46_qa_7_3 k46_u0_2 k46_gq_GJ k46_qa_7_3
                      refine lv_iload hx hb dX10_hankel_46 (lv_at hl 4 rfl) ?_
                      refine lv_iload_n hx hb dX10_hankel_48 rfl (lv_at hl 2 rfl) ?_
                      refine lv_icmp_ge (tgt := 97) hx hb dX10_hankel_49 (by decide) (fun cab46_1 => ?_) (fun cab46_1 => ?_)
                      · have cab46_2 : u3.toInt ≤ v46_5.toInt := Int32.le_iff_toInt_le.mp cab46_1
                        refine lv_aload_n hx hb dX10_hankel_97 rfl (lv_at hl 0 rfl) ?_
                        refine t_getr (tq := 40) C h t_46 ha_46 (by decide) wf_10 rfl fl_X10_47 dX10_hankel_98 (fun qab46_3 tqab46_3 => ?_)
                        obtain ⟨_, rab46_4⟩ := t_rec t_46 tqab46_3 (by decide) wf_40
                        refine k_i (r_V C h hl (As := []) (rest := []) (s_X4_determinant l D G b0 τfa_41 f_46 t_46 qab46_3 tqab46_3) rab46_4 (Cn := RX4) (T := TX4) (N := 4) rfl rfl mk_X4_determinant w_827 w_828 w_829 w_830 ⟨Nat.le_of_ble_eq_true rfl, Nat.le_of_ble_eq_true rfl⟩ rfl (Nat.le_of_ble_eq_true rfl) ⟨Nat.le_of_ble_eq_true rfl, Nat.le_of_ble_eq_true rfl⟩ rfl dX10_hankel_101) h (fun rab46_5 fab46_6 H locs pab46_7 h => ?_)
                        obtain ⟨irab46_5, tfab46_6, ogfab46_6⟩ := pab46_7
                        have ofab46_6 : Fr [0, 1, 3, 20, 21, 22, 23, 24, 25, 40, 41, 42, 1004, 20001, 20002, 20007, 20008, 20009, 20010, 20011, 22001, 22002, 22003, 22004, 23001, 23002, 23003, 23004, 40002, 40003, 40004] τfa_41 fa_41 fab46_6 := Fr.tr o_46 ogfab46_6 (by decide) (by decide)
                        have kab46_8 := atp.fr k46_u0_2 ogfab46_6 ha_46 (by decide)
                        have kab46_9 := GJ.fr k46_gq_GJ ogfab46_6 ha_48 (by decide)
                        have kab46_10 := atp.fr k46_qa_7_3 ogfab46_6 ha_47 (by decide)
                        exact u_iret C h hr hQ (⟨τfa_41, xfa_41, irab46_5, tfab46_6, (Fr.tr Ofa_41 (Fr.cv xfa_41 ofab46_6 (by decide) (fun _ h_ => h_)) (fun _ h_ => h_) (fun _ h_ => h_)), kab46_9⟩) (Nat.le_of_ble_eq_true rfl) (Nat.le_of_ble_eq_true rfl) dX10_hankel_104
                      · have cab46_2 : v46_5.toInt < u3.toInt := Int32.lt_iff_toInt_lt.mp (iv_nle cab46_1)
                        have iab46_3 : iv v46_5 1 7 := iv_Ll cab46_2 iv46_5 jv46_3 (by decide)
                        have iab46_4 : iv u3 2 8 := iv_Lr cab46_2 iv46_5 jv46_3 (by decide)
                        refine lv_iconst (v := 0) hx hb dX10_hankel_52 (by decide) ?_
                        refine lv_istore (lv' := [(6, .int 0), (0, .ref u0), (2, .int u2), (3, .int u3), (4, .ref qa_7), (5, .int v46_5)]) hx hb dX10_hankel_53 hl (by decide) rfl (fun ls hl => ?_)
                        have L55 : ∀ (n55 : Nat) (ls : Array Slot) (f_55 : hM) (H : Heap) (locs : List Loc) (v55_6 : Int32) (g55_qa_7_3 : Nat), 8 - v55_6.toInt < (n55 : Int) → lv_has ls 7 [(0, .ref u0), (2, .int u2), (3, .int u3), (4, .ref qa_7), (5, .int v46_5), (6, .int v55_6)] → hw D b0 s.heap f_55 H locs → TI G 9 τfa_41 f_55 → Fr [0, 1, 3, 20, 21, 22, 23, 24, 25, 40, 41, 42, 1004, 20001, 20002, 20007, 20008, 20009, 20010, 20011, 22001, 22002, 22003, 22004, 23001, 23002, 23003, 23004, 40002, 40003, 40004] τfa_41 fa_41 f_55 → iv u2 0 4 → iv u3 2 8 → iv v46_5 1 7 → iv v55_6 0 8 → τfa_41 g55_qa_7_3 = 3 → atp f_55 u0 (fd 2 (.ref gq)) → GJ τfa_41 f_55 gq rq mq → atp f_55 qa_7 (fd 3 (.ref g55_qa_7_3)) → W p l e rm_s_X10_hankel s m args below meth c H locs 1 305 Q (F0 m 55 ls []) := by
                          intro n55
                          induction n55 with
                          | zero => intro ls f_55 H locs v55_6 g55_qa_7_3 hm55 hl h t_55 o_55 jv55_2 jv55_3 jv55_5 iv55_6 tg55_qa_7_3 k55_u0_2 k55_gq_GJ k55_qa_7_3; exact absurd hm55 (by omega)
                          | succ n55 ih55 =>
                            intro ls f_55 H locs v55_6 g55_qa_7_3 hm55 hl h t_55 o_55 jv55_2 jv55_3 jv55_5 iv55_6 tg55_qa_7_3 k55_u0_2 k55_gq_GJ k55_qa_7_3
                            refine lv_iload hx hb dX10_hankel_55 (lv_at hl 5 rfl) ?_
                            refine lv_iload_n hx hb dX10_hankel_57 rfl (lv_at hl 2 rfl) ?_
                            refine lv_icmp_ge (tgt := 91) hx hb dX10_hankel_58 (by decide) (fun cab46b55_1 => ?_) (fun cab46b55_1 => ?_)
                            · have cab46b55_2 : u3.toInt ≤ v55_6.toInt := Int32.le_iff_toInt_le.mp cab46b55_1
                              have iab46b55_3 : iv v55_6 2 8 := iv_Er cab46b55_2 jv55_3 iv55_6 (by decide)
                              refine i_inc hx hb dX10_hankel_91 hl (k := 4) rfl jv55_5 rfl (lo := 2) (hi := 8) (by decide) (by decide) (lv' := fun v => [(5, .int v), (0, .ref u0), (2, .int u2), (3, .int u3), (4, .ref qa_7), (6, .int v55_6)]) (fun _ => rfl) (fun zab46b55_4 ls ezab46b55_4 mzab46b55_4 izab46b55_4 hl => ?_)
                              refine lv_goto (tgt := 46) hx hb dX10_hankel_94 (by decide) ?_
                              exact ih46 ls f_55 H locs zab46b55_4 g55_qa_7_3 (show 8 - zab46b55_4.toInt < _ by omega) (lv_cons hl 1 rfl (lv_cons hl 2 rfl (lv_cons hl 3 rfl (lv_cons hl 4 rfl (lv_cons hl 0 rfl (lv_nil hl)))))) h t_55 o_55 jv55_2 (iv_w jv55_3 (by decide)) (iv_w izab46b55_4 (by decide)) tg55_qa_7_3 k55_u0_2 k55_gq_GJ k55_qa_7_3
                            · have cab46b55_2 : v55_6.toInt < u3.toInt := Int32.lt_iff_toInt_lt.mp (iv_nle cab46b55_1)
                              have iab46b55_3 : iv v55_6 0 7 := iv_Ll cab46b55_2 iv55_6 jv55_3 (by decide)
                              refine lv_aload_n hx hb dX10_hankel_61 rfl (lv_at hl 0 rfl) ?_
                              refine t_getr (tq := 40) C h t_55 ha_46 (by decide) wf_10 rfl fl_X10_47 dX10_hankel_62 (fun qab46b55_4 tqab46b55_4 => ?_)
                              refine lv_iload hx hb dX10_hankel_65 (lv_at hl 4 rfl) ?_
                              refine lv_iload hx hb dX10_hankel_67 (lv_at hl 5 rfl) ?_
                              refine lv_aload_n hx hb dX10_hankel_69 rfl (lv_at hl 0 rfl) ?_
                              refine lv_aload hx hb dX10_hankel_70 (lv_at hl 3 rfl) ?_
                              refine lv_iload_n hx hb dX10_hankel_72 rfl (lv_at hl 1 rfl) ?_
                              refine lv_iload hx hb dX10_hankel_73 (lv_at hl 4 rfl) ?_
                              refine lv_iload hx hb dX10_hankel_75 (lv_at hl 5 rfl) ?_
                              refine i_add hx hb dX10_hankel_77 jv55_5 iab46b55_3 (lo := 1) (hi := 14) (by decide) (fun zab46b55_5 ezab46b55_5 mzab46b55_5 izab46b55_5 => ?_)
                              obtain ⟨_, rab46b55_6⟩ := t_rec t_55 ha_46 (by decide) wf_10
                              refine k_i (r_V C h hl (As := [.ref qa_7, .int u2, .int zab46b55_5]) (rest := [.int v55_6, .int v46_5, .ref qab46b55_4]) (s_X10_termB l D G b0 τfa_41 f_55 t_55 u0 ha_46 qa_7 ha_47 u2 jv55_2 zab46b55_5 (iv_w izab46b55_5 (by decide)) g55_qa_7_3 tg55_qa_7_3 k55_qa_7_3) rab46b55_6 (Cn := RX10) (T := TX10) (N := 10) rfl rfl mk_X10_term w_724 w_726 w_17 w_727 ⟨Nat.le_of_ble_eq_true rfl, Nat.le_of_ble_eq_true rfl⟩ rfl (Nat.le_of_ble_eq_true rfl) ⟨Nat.le_of_ble_eq_true rfl, Nat.le_of_ble_eq_true rfl⟩ rfl dX10_hankel_78) h (fun rab46b55_7 fab46b55_8 H locs pab46b55_9 h => ?_)
                              obtain ⟨irab46b55_7, tfab46b55_8, ogfab46b55_8, ⟨ztfab46b55_8, ttfab46b55_8, ktfab46b55_8⟩⟩ := pab46b55_9
                              have egfab46b55_8 := Fr.nil2 ogfab46b55_8
                              subst egfab46b55_8
                              refine lv_i2l hx hb dX10_hankel_81 rfl (i_topL irab46b55_7 (fun wab46b55_10 ewab46b55_10 mwab46b55_10 iwab46b55_10 => ?_))
                              obtain ⟨_, rab46b55_11⟩ := t_rec t_55 tqab46b55_4 (by decide) wf_40
                              refine k_v (r_V C h hl (As := [.int v46_5, .int v55_6, .long wab46b55_10]) (rest := []) (s_X4_put l D G b0 τfa_41 f_55 t_55 qab46b55_4 tqab46b55_4 v46_5 (iv_w jv55_5 (by decide)) v55_6 (iv_w iab46b55_3 (by decide)) wab46b55_10) rab46b55_11 (Cn := RX4) (T := TX4) (N := 4) rfl rfl mk_X4_put w_792 w_793 w_794 w_795 ⟨Nat.le_of_ble_eq_true rfl, Nat.le_of_ble_eq_true rfl⟩ rfl (Nat.le_of_ble_eq_true rfl) ⟨Nat.le_of_ble_eq_true rfl, Nat.le_of_ble_eq_true rfl⟩ rfl dX10_hankel_82) h (fun fab46b55_13 H locs pab46b55_14 h => ?_)
                              obtain ⟨tfab46b55_13, ogfab46b55_13⟩ := pab46b55_14
                              have ofab46b55_13 : Fr [0, 1, 3, 20, 21, 22, 23, 24, 25, 40, 41, 42, 1004, 20001, 20002, 20007, 20008, 20009, 20010, 20011, 22001, 22002, 22003, 22004, 23001, 23002, 23003, 23004, 40002, 40003, 40004] τfa_41 fa_41 fab46b55_13 := Fr.tr o_55 ogfab46b55_13 (by decide) (by decide)
                              have kab46b55_15 := atp.fr k55_u0_2 ogfab46b55_13 ha_46 (by decide)
                              have kab46b55_16 := GJ.fr k55_gq_GJ ogfab46b55_13 ha_48 (by decide)
                              have kab46b55_17 := atp.fr ktfab46b55_8 ogfab46b55_13 ha_47 (by decide)
                              refine i_inc hx hb dX10_hankel_85 hl (k := 5) rfl iab46b55_3 rfl (lo := 1) (hi := 8) (by decide) (by decide) (lv' := fun v => [(6, .int v), (0, .ref u0), (2, .int u2), (3, .int u3), (4, .ref qa_7), (5, .int v46_5)]) (fun _ => rfl) (fun zab46b55_18 ls ezab46b55_18 mzab46b55_18 izab46b55_18 hl => ?_)
                              refine lv_goto (tgt := 55) hx hb dX10_hankel_88 (by decide) ?_
                              exact ih55 ls fab46b55_13 H locs zab46b55_18 ztfab46b55_8 (show 8 - zab46b55_18.toInt < _ by omega) (lv_cons hl 1 rfl (lv_cons hl 2 rfl (lv_cons hl 3 rfl (lv_cons hl 4 rfl (lv_cons hl 5 rfl (lv_cons hl 0 rfl (lv_nil hl))))))) h tfab46b55_13 ofab46b55_13 jv55_2 jv55_3 jv55_5 (iv_w izab46b55_18 (by decide)) ttfab46b55_8 kab46b55_15 kab46b55_16 kab46b55_17
                        exact L55 9 ls f_46 H locs 0 g46_qa_7_3 (by decide) (lv_cons hl 1 rfl (lv_cons hl 2 rfl (lv_cons hl 3 rfl (lv_cons hl 4 rfl (lv_cons hl 5 rfl (lv_cons hl 0 rfl (lv_nil hl))))))) h t_46 o_46 jv46_2 iab46_4 iab46_3 ⟨by decide, by decide⟩ tg46_qa_7_3 k46_u0_2 k46_gq_GJ k46_qa_7_3
                  exact L46 8 ls fa_84 H locs 1 ztfa_79 (by decide) (lv_cons hl 3 rfl (lv_cons hl 5 rfl (lv_cons hl 6 rfl (lv_cons hl 2 rfl (lv_cons hl 0 rfl (lv_nil hl)))))) h tfa_84 ofa_84 ia_15 (iv_w ia_91 (by decide)) ⟨by decide, by decide⟩ ttfa_79 ka_86 ka_87 ka_88
                · have ca_90 : 3 < u3.toInt := Int32.lt_iff_toInt_lt.mp (iv_nle ca_89)
                  have ia_91 : iv u3 4 8 := iv_Lr ca_90 (iv_k (x := 3) (k := 3) rfl) ia_75 (by decide)
                  refine lv_aload_n hx hb dX10_hankel_61 rfl (lv_at hl 3 rfl) ?_
                  refine t_getr (tq := 40) C h tfa_84 ha_46 (by decide) wf_10 rfl fl_X10_47 dX10_hankel_62 (fun qa_92 tqa_92 => ?_)
                  refine lv_iload hx hb dX10_hankel_65 (lv_at hl 1 rfl) ?_
                  refine lv_iload hx hb dX10_hankel_67 (lv_at hl 0 rfl) ?_
                  refine lv_aload_n hx hb dX10_hankel_69 rfl (lv_at hl 3 rfl) ?_
                  refine lv_aload hx hb dX10_hankel_70 (lv_at hl 2 rfl) ?_
                  refine lv_iload_n hx hb dX10_hankel_72 rfl (lv_at hl 5 rfl) ?_
                  refine lv_iload hx hb dX10_hankel_73 (lv_at hl 1 rfl) ?_
                  refine lv_iload hx hb dX10_hankel_75 (lv_at hl 0 rfl) ?_
                  refine lv_iadd hx hb dX10_hankel_77 (lv_topi (fun x_ e_ => ?_))
                  obtain rfl : 3 = x_ := by rw [e_]; decide
                  obtain ⟨_, ra_93⟩ := t_rec tfa_84 ha_46 (by decide) wf_10
                  refine k_i (r_V C h hl (As := [.ref qa_7, .int u2, .int 3]) (rest := [.int 3, .int 0, .ref qa_92]) (s_X10_termB l D G b0 τfa_41 fa_84 tfa_84 u0 ha_46 qa_7 ha_47 u2 ia_15 3 (iv_w (iv_k (x := 3) (k := 3) rfl) (by decide)) ztfa_79 ttfa_79 ka_88) ra_93 (Cn := RX10) (T := TX10) (N := 10) rfl rfl mk_X10_term w_724 w_726 w_17 w_727 ⟨Nat.le_of_ble_eq_true rfl, Nat.le_of_ble_eq_true rfl⟩ rfl (Nat.le_of_ble_eq_true rfl) ⟨Nat.le_of_ble_eq_true rfl, Nat.le_of_ble_eq_true rfl⟩ rfl dX10_hankel_78) h (fun ra_94 fa_95 H locs pa_96 h => ?_)
                  obtain ⟨ira_94, tfa_95, ogfa_95, ⟨ztfa_95, ttfa_95, ktfa_95⟩⟩ := pa_96
                  have egfa_95 := Fr.nil2 ogfa_95
                  subst egfa_95
                  refine lv_i2l hx hb dX10_hankel_81 rfl (i_topL ira_94 (fun wa_97 ewa_97 mwa_97 iwa_97 => ?_))
                  obtain ⟨_, ra_98⟩ := t_rec tfa_84 tqa_92 (by decide) wf_40
                  refine k_v (r_V C h hl (As := [.int 0, .int 3, .long wa_97]) (rest := []) (s_X4_put l D G b0 τfa_41 fa_84 tfa_84 qa_92 tqa_92 0 (iv_w (iv_k (x := 0) (k := 0) rfl) (by decide)) 3 (iv_w (iv_k (x := 3) (k := 3) rfl) (by decide)) wa_97) ra_98 (Cn := RX4) (T := TX4) (N := 4) rfl rfl mk_X4_put w_792 w_793 w_794 w_795 ⟨Nat.le_of_ble_eq_true rfl, Nat.le_of_ble_eq_true rfl⟩ rfl (Nat.le_of_ble_eq_true rfl) ⟨Nat.le_of_ble_eq_true rfl, Nat.le_of_ble_eq_true rfl⟩ rfl dX10_hankel_82) h (fun fa_100 H locs pa_101 h => ?_)
                  obtain ⟨tfa_100, ogfa_100⟩ := pa_101
                  have ofa_100 : Fr [0, 1, 3, 20, 21, 22, 23, 24, 25, 40, 41, 42, 1004, 20001, 20002, 20007, 20008, 20009, 20010, 20011, 22001, 22002, 22003, 22004, 23001, 23002, 23003, 23004, 40002, 40003, 40004] τfa_41 fa_41 fa_100 := Fr.tr ofa_84 ogfa_100 (by decide) (by decide)
                  have ka_102 := atp.fr ka_86 ogfa_100 ha_46 (by decide)
                  have ka_103 := GJ.fr ka_87 ogfa_100 ha_48 (by decide)
                  have ka_104 := atp.fr ktfa_95 ogfa_100 ha_47 (by decide)
                  refine lv_iinc (v := 4) (lv' := [(6, .int 4), (5, .int 0), (4, .ref qa_7), (0, .ref u0), (1, .int u1), (2, .int u2), (3, .int u3)]) hx hb dX10_hankel_85 hl (k := 0) rfl (by decide) (by decide) rfl (fun ls hl => ?_)
                  refine lv_goto (tgt := 55) hx hb dX10_hankel_88 (by decide) ?_
                  refine lv_iload hx hb dX10_hankel_55 (lv_at hl 0 rfl) ?_
                  refine lv_iload_n hx hb dX10_hankel_57 rfl (lv_at hl 6 rfl) ?_
                  refine lv_icmp_ge (tgt := 91) hx hb dX10_hankel_58 (by decide) (fun ca_105 => ?_) (fun ca_105 => ?_)
                  · have ca_106 : u3.toInt ≤ 4 := Int32.le_iff_toInt_le.mp ca_105
                    have ia_107 : iv u3 4 4 := iv_El ca_106 ia_91 (iv_k (x := 4) (k := 4) rfl) (by decide)
                    refine lv_iinc (v := 1) (lv' := [(5, .int 1), (6, .int 4), (4, .ref qa_7), (0, .ref u0), (1, .int u1), (2, .int u2), (3, .int u3)]) hx hb dX10_hankel_91 hl (k := 1) rfl (by decide) (by decide) rfl (fun ls hl => ?_)
                    refine lv_goto (tgt := 46) hx hb dX10_hankel_94 (by decide) ?_
                    have L46 : ∀ (n46 : Nat) (ls : Array Slot) (f_46 : hM) (H : Heap) (locs : List Loc) (v46_5 : Int32) (g46_qa_7_3 : Nat), 8 - v46_5.toInt < (n46 : Int) → lv_has ls 7 [(0, .ref u0), (2, .int u2), (3, .int u3), (4, .ref qa_7), (5, .int v46_5)] → hw D b0 s.heap f_46 H locs → TI G 9 τfa_41 f_46 → Fr [0, 1, 3, 20, 21, 22, 23, 24, 25, 40, 41, 42, 1004, 20001, 20002, 20007, 20008, 20009, 20010, 20011, 22001, 22002, 22003, 22004, 23001, 23002, 23003, 23004, 40002, 40003, 40004] τfa_41 fa_41 f_46 → iv u2 0 4 → iv u3 1 8 → iv v46_5 1 8 → τfa_41 g46_qa_7_3 = 3 → atp f_46 u0 (fd 2 (.ref gq)) → GJ τfa_41 f_46 gq rq mq → atp f_46 qa_7 (fd 3 (.ref g46_qa_7_3)) → W p l e rm_s_X10_hankel s m args below meth c H locs 1 305 Q (F0 m 46 ls []) := by
                      intro n46
                      induction n46 with
                      | zero => intro ls f_46 H locs v46_5 g46_qa_7_3 hm46 hl h t_46 o_46 jv46_2 jv46_3 iv46_5 tg46_qa_7_3 k46_u0_2 k46_gq_GJ k46_qa_7_3; exact absurd hm46 (by omega)
                      | succ n46 ih46 =>
                        intro ls f_46 H locs v46_5 g46_qa_7_3 hm46 hl h t_46 o_46 jv46_2 jv46_3 iv46_5 tg46_qa_7_3 k46_u0_2 k46_gq_GJ k46_qa_7_3
                        refine lv_iload hx hb dX10_hankel_46 (lv_at hl 4 rfl) ?_
                        refine lv_iload_n hx hb dX10_hankel_48 rfl (lv_at hl 2 rfl) ?_
                        refine lv_icmp_ge (tgt := 97) hx hb dX10_hankel_49 (by decide) (fun cab46_1 => ?_) (fun cab46_1 => ?_)
                        · have cab46_2 : u3.toInt ≤ v46_5.toInt := Int32.le_iff_toInt_le.mp cab46_1
                          refine lv_aload_n hx hb dX10_hankel_97 rfl (lv_at hl 0 rfl) ?_
                          refine t_getr (tq := 40) C h t_46 ha_46 (by decide) wf_10 rfl fl_X10_47 dX10_hankel_98 (fun qab46_3 tqab46_3 => ?_)
                          obtain ⟨_, rab46_4⟩ := t_rec t_46 tqab46_3 (by decide) wf_40
                          refine k_i (r_V C h hl (As := []) (rest := []) (s_X4_determinant l D G b0 τfa_41 f_46 t_46 qab46_3 tqab46_3) rab46_4 (Cn := RX4) (T := TX4) (N := 4) rfl rfl mk_X4_determinant w_827 w_828 w_829 w_830 ⟨Nat.le_of_ble_eq_true rfl, Nat.le_of_ble_eq_true rfl⟩ rfl (Nat.le_of_ble_eq_true rfl) ⟨Nat.le_of_ble_eq_true rfl, Nat.le_of_ble_eq_true rfl⟩ rfl dX10_hankel_101) h (fun rab46_5 fab46_6 H locs pab46_7 h => ?_)
                          obtain ⟨irab46_5, tfab46_6, ogfab46_6⟩ := pab46_7
                          have ofab46_6 : Fr [0, 1, 3, 20, 21, 22, 23, 24, 25, 40, 41, 42, 1004, 20001, 20002, 20007, 20008, 20009, 20010, 20011, 22001, 22002, 22003, 22004, 23001, 23002, 23003, 23004, 40002, 40003, 40004] τfa_41 fa_41 fab46_6 := Fr.tr o_46 ogfab46_6 (by decide) (by decide)
                          have kab46_8 := atp.fr k46_u0_2 ogfab46_6 ha_46 (by decide)
                          have kab46_9 := GJ.fr k46_gq_GJ ogfab46_6 ha_48 (by decide)
                          have kab46_10 := atp.fr k46_qa_7_3 ogfab46_6 ha_47 (by decide)
                          exact u_iret C h hr hQ (⟨τfa_41, xfa_41, irab46_5, tfab46_6, (Fr.tr Ofa_41 (Fr.cv xfa_41 ofab46_6 (by decide) (fun _ h_ => h_)) (fun _ h_ => h_) (fun _ h_ => h_)), kab46_9⟩) (Nat.le_of_ble_eq_true rfl) (Nat.le_of_ble_eq_true rfl) dX10_hankel_104
                        · have cab46_2 : v46_5.toInt < u3.toInt := Int32.lt_iff_toInt_lt.mp (iv_nle cab46_1)
                          have iab46_3 : iv v46_5 1 7 := iv_Ll cab46_2 iv46_5 jv46_3 (by decide)
                          have iab46_4 : iv u3 2 8 := iv_Lr cab46_2 iv46_5 jv46_3 (by decide)
                          refine lv_iconst (v := 0) hx hb dX10_hankel_52 (by decide) ?_
                          refine lv_istore (lv' := [(6, .int 0), (0, .ref u0), (2, .int u2), (3, .int u3), (4, .ref qa_7), (5, .int v46_5)]) hx hb dX10_hankel_53 hl (by decide) rfl (fun ls hl => ?_)
                          have L55 : ∀ (n55 : Nat) (ls : Array Slot) (f_55 : hM) (H : Heap) (locs : List Loc) (v55_6 : Int32) (g55_qa_7_3 : Nat), 8 - v55_6.toInt < (n55 : Int) → lv_has ls 7 [(0, .ref u0), (2, .int u2), (3, .int u3), (4, .ref qa_7), (5, .int v46_5), (6, .int v55_6)] → hw D b0 s.heap f_55 H locs → TI G 9 τfa_41 f_55 → Fr [0, 1, 3, 20, 21, 22, 23, 24, 25, 40, 41, 42, 1004, 20001, 20002, 20007, 20008, 20009, 20010, 20011, 22001, 22002, 22003, 22004, 23001, 23002, 23003, 23004, 40002, 40003, 40004] τfa_41 fa_41 f_55 → iv u2 0 4 → iv u3 2 8 → iv v46_5 1 7 → iv v55_6 0 8 → τfa_41 g55_qa_7_3 = 3 → atp f_55 u0 (fd 2 (.ref gq)) → GJ τfa_41 f_55 gq rq mq → atp f_55 qa_7 (fd 3 (.ref g55_qa_7_3)) → W p l e rm_s_X10_hankel s m args below meth c H locs 1 305 Q (F0 m 55 ls []) := by
                            intro n55
                            induction n55 with
                            | zero => intro ls f_55 H locs v55_6 g55_qa_7_3 hm55 hl h t_55 o_55 jv55_2 jv55_3 jv55_5 iv55_6 tg55_qa_7_3 k55_u0_2 k55_gq_GJ k55_qa_7_3; exact absurd hm55 (by omega)
                            | succ n55 ih55 =>
                              intro ls f_55 H locs v55_6 g55_qa_7_3 hm55 hl h t_55 o_55 jv55_2 jv55_3 jv55_5 iv55_6 tg55_qa_7_3 k55_u0_2 k55_gq_GJ k55_qa_7_3
                              refine lv_iload hx hb dX10_hankel_55 (lv_at hl 5 rfl) ?_
                              refine lv_iload_n hx hb dX10_hankel_57 rfl (lv_at hl 2 rfl) ?_
                              refine lv_icmp_ge (tgt := 91) hx hb dX10_hankel_58 (by decide) (fun cab46b55_1 => ?_) (fun cab46b55_1 => ?_)
                              · have cab46b55_2 : u3.toInt ≤ v55_6.toInt := Int32.le_iff_toInt_le.mp cab46b55_1
                                have iab46b55_3 : iv v55_6 2 8 := iv_Er cab46b55_2 jv55_3 iv55_6 (by decide)
                                refine i_inc hx hb dX10_hankel_91 hl (k := 4) rfl jv55_5 rfl (lo := 2) (hi := 8) (by decide) (by decide) (lv' := fun v => [(5, .int v), (0, .ref u0), (2, .int u2), (3, .int u3), (4, .ref qa_7), (6, .int v55_6)]) (fun _ => rfl) (fun zab46b55_4 ls ezab46b55_4 mzab46b55_4 izab46b55_4 hl => ?_)
                                refine lv_goto (tgt := 46) hx hb dX10_hankel_94 (by decide) ?_
                                exact ih46 ls f_55 H locs zab46b55_4 g55_qa_7_3 (show 8 - zab46b55_4.toInt < _ by omega) (lv_cons hl 1 rfl (lv_cons hl 2 rfl (lv_cons hl 3 rfl (lv_cons hl 4 rfl (lv_cons hl 0 rfl (lv_nil hl)))))) h t_55 o_55 jv55_2 (iv_w jv55_3 (by decide)) (iv_w izab46b55_4 (by decide)) tg55_qa_7_3 k55_u0_2 k55_gq_GJ k55_qa_7_3
                              · have cab46b55_2 : v55_6.toInt < u3.toInt := Int32.lt_iff_toInt_lt.mp (iv_nle cab46b55_1)
                                have iab46b55_3 : iv v55_6 0 7 := iv_Ll cab46b55_2 iv55_6 jv55_3 (by decide)
                                refine lv_aload_n hx hb dX10_hankel_61 rfl (lv_at hl 0 rfl) ?_
                                refine t_getr (tq := 40) C h t_55 ha_46 (by decide) wf_10 rfl fl_X10_47 dX10_hankel_62 (fun qab46b55_4 tqab46b55_4 => ?_)
                                refine lv_iload hx hb dX10_hankel_65 (lv_at hl 4 rfl) ?_
                                refine lv_iload hx hb dX10_hankel_67 (lv_at hl 5 rfl) ?_
                                refine lv_aload_n hx hb dX10_hankel_69 rfl (lv_at hl 0 rfl) ?_
                                refine lv_aload hx hb dX10_hankel_70 (lv_at hl 3 rfl) ?_
                                refine lv_iload_n hx hb dX10_hankel_72 rfl (lv_at hl 1 rfl) ?_
                                refine lv_iload hx hb dX10_hankel_73 (lv_at hl 4 rfl) ?_
                                refine lv_iload hx hb dX10_hankel_75 (lv_at hl 5 rfl) ?_
                                refine i_add hx hb dX10_hankel_77 jv55_5 iab46b55_3 (lo := 1) (hi := 14) (by decide) (fun zab46b55_5 ezab46b55_5 mzab46b55_5 izab46b55_5 => ?_)
                                obtain ⟨_, rab46b55_6⟩ := t_rec t_55 ha_46 (by decide) wf_10
                                refine k_i (r_V C h hl (As := [.ref qa_7, .int u2, .int zab46b55_5]) (rest := [.int v55_6, .int v46_5, .ref qab46b55_4]) (s_X10_termB l D G b0 τfa_41 f_55 t_55 u0 ha_46 qa_7 ha_47 u2 jv55_2 zab46b55_5 (iv_w izab46b55_5 (by decide)) g55_qa_7_3 tg55_qa_7_3 k55_qa_7_3) rab46b55_6 (Cn := RX10) (T := TX10) (N := 10) rfl rfl mk_X10_term w_724 w_726 w_17 w_727 ⟨Nat.le_of_ble_eq_true rfl, Nat.le_of_ble_eq_true rfl⟩ rfl (Nat.le_of_ble_eq_true rfl) ⟨Nat.le_of_ble_eq_true rfl, Nat.le_of_ble_eq_true rfl⟩ rfl dX10_hankel_78) h (fun rab46b55_7 fab46b55_8 H locs pab46b55_9 h => ?_)
                                obtain ⟨irab46b55_7, tfab46b55_8, ogfab46b55_8, ⟨ztfab46b55_8, ttfab46b55_8, ktfab46b55_8⟩⟩ := pab46b55_9
                                have egfab46b55_8 := Fr.nil2 ogfab46b55_8
                                subst egfab46b55_8
                                refine lv_i2l hx hb dX10_hankel_81 rfl (i_topL irab46b55_7 (fun wab46b55_10 ewab46b55_10 mwab46b55_10 iwab46b55_10 => ?_))
                                obtain ⟨_, rab46b55_11⟩ := t_rec t_55 tqab46b55_4 (by decide) wf_40
                                refine k_v (r_V C h hl (As := [.int v46_5, .int v55_6, .long wab46b55_10]) (rest := []) (s_X4_put l D G b0 τfa_41 f_55 t_55 qab46b55_4 tqab46b55_4 v46_5 (iv_w jv55_5 (by decide)) v55_6 (iv_w iab46b55_3 (by decide)) wab46b55_10) rab46b55_11 (Cn := RX4) (T := TX4) (N := 4) rfl rfl mk_X4_put w_792 w_793 w_794 w_795 ⟨Nat.le_of_ble_eq_true rfl, Nat.le_of_ble_eq_true rfl⟩ rfl (Nat.le_of_ble_eq_true rfl) ⟨Nat.le_of_ble_eq_true rfl, Nat.le_of_ble_eq_true rfl⟩ rfl dX10_hankel_82) h (fun fab46b55_13 H locs pab46b55_14 h => ?_)
                                obtain ⟨tfab46b55_13, ogfab46b55_13⟩ := pab46b55_14
                                have ofab46b55_13 : Fr [0, 1, 3, 20, 21, 22, 23, 24, 25, 40, 41, 42, 1004, 20001, 20002, 20007, 20008, 20009, 20010, 20011, 22001, 22002, 22003, 22004, 23001, 23002, 23003, 23004, 40002, 40003, 40004] τfa_41 fa_41 fab46b55_13 := Fr.tr o_55 ogfab46b55_13 (by decide) (by decide)
                                have kab46b55_15 := atp.fr k55_u0_2 ogfab46b55_13 ha_46 (by decide)
                                have kab46b55_16 := GJ.fr k55_gq_GJ ogfab46b55_13 ha_48 (by decide)
                                have kab46b55_17 := atp.fr ktfab46b55_8 ogfab46b55_13 ha_47 (by decide)
                                refine i_inc hx hb dX10_hankel_85 hl (k := 5) rfl iab46b55_3 rfl (lo := 1) (hi := 8) (by decide) (by decide) (lv' := fun v => [(6, .int v), (0, .ref u0), (2, .int u2), (3, .int u3), (4, .ref qa_7), (5, .int v46_5)]) (fun _ => rfl) (fun zab46b55_18 ls ezab46b55_18 mzab46b55_18 izab46b55_18 hl => ?_)
                                refine lv_goto (tgt := 55) hx hb dX10_hankel_88 (by decide) ?_
                                exact ih55 ls fab46b55_13 H locs zab46b55_18 ztfab46b55_8 (show 8 - zab46b55_18.toInt < _ by omega) (lv_cons hl 1 rfl (lv_cons hl 2 rfl (lv_cons hl 3 rfl (lv_cons hl 4 rfl (lv_cons hl 5 rfl (lv_cons hl 0 rfl (lv_nil hl))))))) h tfab46b55_13 ofab46b55_13 jv55_2 jv55_3 jv55_5 (iv_w izab46b55_18 (by decide)) ttfab46b55_8 kab46b55_15 kab46b55_16 kab46b55_17
                          exact L55 9 ls f_46 H locs 0 g46_qa_7_3 (by decide) (lv_cons hl 1 rfl (lv_cons hl 2 rfl (lv_cons hl 3 rfl (lv_cons hl 4 rfl (lv_cons hl 5 rfl (lv_cons hl 0 rfl (lv_nil hl))))))) h t_46 o_46 jv46_2 iab46_4 iab46_3 ⟨by decide, by decide⟩ tg46_qa_7_3 k46_u0_2 k46_gq_GJ k46_qa_7_3
                    exact L46 8 ls fa_100 H locs 1 ztfa_95 (by decide) (lv_cons hl 3 rfl (lv_cons hl 5 rfl (lv_cons hl 6 rfl (lv_cons hl 2 rfl (lv_cons hl 0 rfl (lv_nil hl)))))) h tfa_100 ofa_100 ia_15 (iv_w ia_107 (by decide)) ⟨by decide, by decide⟩ ttfa_95 ka_102 ka_103 ka_104
                  · have ca_106 : 4 < u3.toInt := Int32.lt_iff_toInt_lt.mp (iv_nle ca_105)
                    have ia_107 : iv u3 5 8 := iv_Lr ca_106 (iv_k (x := 4) (k := 4) rfl) ia_91 (by decide)
                    refine lv_aload_n hx hb dX10_hankel_61 rfl (lv_at hl 3 rfl) ?_
                    refine t_getr (tq := 40) C h tfa_100 ha_46 (by decide) wf_10 rfl fl_X10_47 dX10_hankel_62 (fun qa_108 tqa_108 => ?_)
                    refine lv_iload hx hb dX10_hankel_65 (lv_at hl 1 rfl) ?_
                    refine lv_iload hx hb dX10_hankel_67 (lv_at hl 0 rfl) ?_
                    refine lv_aload_n hx hb dX10_hankel_69 rfl (lv_at hl 3 rfl) ?_
                    refine lv_aload hx hb dX10_hankel_70 (lv_at hl 2 rfl) ?_
                    refine lv_iload_n hx hb dX10_hankel_72 rfl (lv_at hl 5 rfl) ?_
                    refine lv_iload hx hb dX10_hankel_73 (lv_at hl 1 rfl) ?_
                    refine lv_iload hx hb dX10_hankel_75 (lv_at hl 0 rfl) ?_
                    refine lv_iadd hx hb dX10_hankel_77 (lv_topi (fun x_ e_ => ?_))
                    obtain rfl : 4 = x_ := by rw [e_]; decide
                    obtain ⟨_, ra_109⟩ := t_rec tfa_100 ha_46 (by decide) wf_10
                    refine k_i (r_V C h hl (As := [.ref qa_7, .int u2, .int 4]) (rest := [.int 4, .int 0, .ref qa_108]) (s_X10_termB l D G b0 τfa_41 fa_100 tfa_100 u0 ha_46 qa_7 ha_47 u2 ia_15 4 (iv_w (iv_k (x := 4) (k := 4) rfl) (by decide)) ztfa_95 ttfa_95 ka_104) ra_109 (Cn := RX10) (T := TX10) (N := 10) rfl rfl mk_X10_term w_724 w_726 w_17 w_727 ⟨Nat.le_of_ble_eq_true rfl, Nat.le_of_ble_eq_true rfl⟩ rfl (Nat.le_of_ble_eq_true rfl) ⟨Nat.le_of_ble_eq_true rfl, Nat.le_of_ble_eq_true rfl⟩ rfl dX10_hankel_78) h (fun ra_110 fa_111 H locs pa_112 h => ?_)
                    obtain ⟨ira_110, tfa_111, ogfa_111, ⟨ztfa_111, ttfa_111, ktfa_111⟩⟩ := pa_112
                    have egfa_111 := Fr.nil2 ogfa_111
                    subst egfa_111
                    refine lv_i2l hx hb dX10_hankel_81 rfl (i_topL ira_110 (fun wa_113 ewa_113 mwa_113 iwa_113 => ?_))
                    obtain ⟨_, ra_114⟩ := t_rec tfa_100 tqa_108 (by decide) wf_40
                    refine k_v (r_V C h hl (As := [.int 0, .int 4, .long wa_113]) (rest := []) (s_X4_put l D G b0 τfa_41 fa_100 tfa_100 qa_108 tqa_108 0 (iv_w (iv_k (x := 0) (k := 0) rfl) (by decide)) 4 (iv_w (iv_k (x := 4) (k := 4) rfl) (by decide)) wa_113) ra_114 (Cn := RX4) (T := TX4) (N := 4) rfl rfl mk_X4_put w_792 w_793 w_794 w_795 ⟨Nat.le_of_ble_eq_true rfl, Nat.le_of_ble_eq_true rfl⟩ rfl (Nat.le_of_ble_eq_true rfl) ⟨Nat.le_of_ble_eq_true rfl, Nat.le_of_ble_eq_true rfl⟩ rfl dX10_hankel_82) h (fun fa_116 H locs pa_117 h => ?_)
                    obtain ⟨tfa_116, ogfa_116⟩ := pa_117
                    have ofa_116 : Fr [0, 1, 3, 20, 21, 22, 23, 24, 25, 40, 41, 42, 1004, 20001, 20002, 20007, 20008, 20009, 20010, 20011, 22001, 22002, 22003, 22004, 23001, 23002, 23003, 23004, 40002, 40003, 40004] τfa_41 fa_41 fa_116 := Fr.tr ofa_100 ogfa_116 (by decide) (by decide)
                    have ka_118 := atp.fr ka_102 ogfa_116 ha_46 (by decide)
                    have ka_119 := GJ.fr ka_103 ogfa_116 ha_48 (by decide)
                    have ka_120 := atp.fr ktfa_111 ogfa_116 ha_47 (by decide)
                    refine lv_iinc (v := 5) (lv' := [(6, .int 5), (5, .int 0), (4, .ref qa_7), (0, .ref u0), (1, .int u1), (2, .int u2), (3, .int u3)]) hx hb dX10_hankel_85 hl (k := 0) rfl (by decide) (by decide) rfl (fun ls hl => ?_)
                    refine lv_goto (tgt := 55) hx hb dX10_hankel_88 (by decide) ?_
                    refine lv_iload hx hb dX10_hankel_55 (lv_at hl 0 rfl) ?_
                    refine lv_iload_n hx hb dX10_hankel_57 rfl (lv_at hl 6 rfl) ?_
                    refine lv_icmp_ge (tgt := 91) hx hb dX10_hankel_58 (by decide) (fun ca_121 => ?_) (fun ca_121 => ?_)
                    · have ca_122 : u3.toInt ≤ 5 := Int32.le_iff_toInt_le.mp ca_121
                      have ia_123 : iv u3 5 5 := iv_El ca_122 ia_107 (iv_k (x := 5) (k := 5) rfl) (by decide)
                      refine lv_iinc (v := 1) (lv' := [(5, .int 1), (6, .int 5), (4, .ref qa_7), (0, .ref u0), (1, .int u1), (2, .int u2), (3, .int u3)]) hx hb dX10_hankel_91 hl (k := 1) rfl (by decide) (by decide) rfl (fun ls hl => ?_)
                      refine lv_goto (tgt := 46) hx hb dX10_hankel_94 (by decide) ?_
                      have L46 : ∀ (n46 : Nat) (ls : Array Slot) (f_46 : hM) (H : Heap) (locs : List Loc) (v46_5 : Int32) (g46_qa_7_3 : Nat), 8 - v46_5.toInt < (n46 : Int) → lv_has ls 7 [(0, .ref u0), (2, .int u2), (3, .int u3), (4, .ref qa_7), (5, .int v46_5)] → hw D b0 s.heap f_46 H locs → TI G 9 τfa_41 f_46 → Fr [0, 1, 3, 20, 21, 22, 23, 24, 25, 40, 41, 42, 1004, 20001, 20002, 20007, 20008, 20009, 20010, 20011, 22001, 22002, 22003, 22004, 23001, 23002, 23003, 23004, 40002, 40003, 40004] τfa_41 fa_41 f_46 → iv u2 0 4 → iv u3 1 8 → iv v46_5 1 8 → τfa_41 g46_qa_7_3 = 3 → atp f_46 u0 (fd 2 (.ref gq)) → GJ τfa_41 f_46 gq rq mq → atp f_46 qa_7 (fd 3 (.ref g46_qa_7_3)) → W p l e rm_s_X10_hankel s m args below meth c H locs 1 305 Q (F0 m 46 ls []) := by
                        intro n46
                        induction n46 with
                        | zero => intro ls f_46 H locs v46_5 g46_qa_7_3 hm46 hl h t_46 o_46 jv46_2 jv46_3 iv46_5 tg46_qa_7_3 k46_u0_2 k46_gq_GJ k46_qa_7_3; exact absurd hm46 (by omega)
                        | succ n46 ih46 =>
                          intro ls f_46 H locs v46_5 g46_qa_7_3 hm46 hl h t_46 o_46 jv46_2 jv46_3 iv46_5 tg46_qa_7_3 k46_u0_2 k46_gq_GJ k46_qa_7_3
                          refine lv_iload hx hb dX10_hankel_46 (lv_at hl 4 rfl) ?_
                          refine lv_iload_n hx hb dX10_hankel_48 rfl (lv_at hl 2 rfl) ?_
                          refine lv_icmp_ge (tgt := 97) hx hb dX10_hankel_49 (by decide) (fun cab46_1 => ?_) (fun cab46_1 => ?_)
                          · have cab46_2 : u3.toInt ≤ v46_5.toInt := Int32.le_iff_toInt_le.mp cab46_1
                            refine lv_aload_n hx hb dX10_hankel_97 rfl (lv_at hl 0 rfl) ?_
                            refine t_getr (tq := 40) C h t_46 ha_46 (by decide) wf_10 rfl fl_X10_47 dX10_hankel_98 (fun qab46_3 tqab46_3 => ?_)
                            obtain ⟨_, rab46_4⟩ := t_rec t_46 tqab46_3 (by decide) wf_40
                            refine k_i (r_V C h hl (As := []) (rest := []) (s_X4_determinant l D G b0 τfa_41 f_46 t_46 qab46_3 tqab46_3) rab46_4 (Cn := RX4) (T := TX4) (N := 4) rfl rfl mk_X4_determinant w_827 w_828 w_829 w_830 ⟨Nat.le_of_ble_eq_true rfl, Nat.le_of_ble_eq_true rfl⟩ rfl (Nat.le_of_ble_eq_true rfl) ⟨Nat.le_of_ble_eq_true rfl, Nat.le_of_ble_eq_true rfl⟩ rfl dX10_hankel_101) h (fun rab46_5 fab46_6 H locs pab46_7 h => ?_)
                            obtain ⟨irab46_5, tfab46_6, ogfab46_6⟩ := pab46_7
                            have ofab46_6 : Fr [0, 1, 3, 20, 21, 22, 23, 24, 25, 40, 41, 42, 1004, 20001, 20002, 20007, 20008, 20009, 20010, 20011, 22001, 22002, 22003, 22004, 23001, 23002, 23003, 23004, 40002, 40003, 40004] τfa_41 fa_41 fab46_6 := Fr.tr o_46 ogfab46_6 (by decide) (by decide)
                            have kab46_8 := atp.fr k46_u0_2 ogfab46_6 ha_46 (by decide)
                            have kab46_9 := GJ.fr k46_gq_GJ ogfab46_6 ha_48 (by decide)
                            have kab46_10 := atp.fr k46_qa_7_3 ogfab46_6 ha_47 (by decide)
                            exact u_iret C h hr hQ (⟨τfa_41, xfa_41, irab46_5, tfab46_6, (Fr.tr Ofa_41 (Fr.cv xfa_41 ofab46_6 (by decide) (fun _ h_ => h_)) (fun _ h_ => h_) (fun _ h_ => h_)), kab46_9⟩) (Nat.le_of_ble_eq_true rfl) (Nat.le_of_ble_eq_true rfl) dX10_hankel_104
                          · have cab46_2 : v46_5.toInt < u3.toInt := Int32.lt_iff_toInt_lt.mp (iv_nle cab46_1)
                            have iab46_3 : iv v46_5 1 7 := iv_Ll cab46_2 iv46_5 jv46_3 (by decide)
                            have iab46_4 : iv u3 2 8 := iv_Lr cab46_2 iv46_5 jv46_3 (by decide)
                            refine lv_iconst (v := 0) hx hb dX10_hankel_52 (by decide) ?_
                            refine lv_istore (lv' := [(6, .int 0), (0, .ref u0), (2, .int u2), (3, .int u3), (4, .ref qa_7), (5, .int v46_5)]) hx hb dX10_hankel_53 hl (by decide) rfl (fun ls hl => ?_)
                            have L55 : ∀ (n55 : Nat) (ls : Array Slot) (f_55 : hM) (H : Heap) (locs : List Loc) (v55_6 : Int32) (g55_qa_7_3 : Nat), 8 - v55_6.toInt < (n55 : Int) → lv_has ls 7 [(0, .ref u0), (2, .int u2), (3, .int u3), (4, .ref qa_7), (5, .int v46_5), (6, .int v55_6)] → hw D b0 s.heap f_55 H locs → TI G 9 τfa_41 f_55 → Fr [0, 1, 3, 20, 21, 22, 23, 24, 25, 40, 41, 42, 1004, 20001, 20002, 20007, 20008, 20009, 20010, 20011, 22001, 22002, 22003, 22004, 23001, 23002, 23003, 23004, 40002, 40003, 40004] τfa_41 fa_41 f_55 → iv u2 0 4 → iv u3 2 8 → iv v46_5 1 7 → iv v55_6 0 8 → τfa_41 g55_qa_7_3 = 3 → atp f_55 u0 (fd 2 (.ref gq)) → GJ τfa_41 f_55 gq rq mq → atp f_55 qa_7 (fd 3 (.ref g55_qa_7_3)) → W p l e rm_s_X10_hankel s m args below meth c H locs 1 305 Q (F0 m 55 ls []) := by
                              intro n55
                              induction n55 with
                              | zero => intro ls f_55 H locs v55_6 g55_qa_7_3 hm55 hl h t_55 o_55 jv55_2 jv55_3 jv55_5 iv55_6 tg55_qa_7_3 k55_u0_2 k55_gq_GJ k55_qa_7_3; exact absurd hm55 (by omega)
                              | succ n55 ih55 =>
                                intro ls f_55 H locs v55_6 g55_qa_7_3 hm55 hl h t_55 o_55 jv55_2 jv55_3 jv55_5 iv55_6 tg55_qa_7_3 k55_u0_2 k55_gq_GJ k55_qa_7_3
                                refine lv_iload hx hb dX10_hankel_55 (lv_at hl 5 rfl) ?_
                                refine lv_iload_n hx hb dX10_hankel_57 rfl (lv_at hl 2 rfl) ?_
                                refine lv_icmp_ge (tgt := 91) hx hb dX10_hankel_58 (by decide) (fun cab46b55_1 => ?_) (fun cab46b55_1 => ?_)
                                · have cab46b55_2 : u3.toInt ≤ v55_6.toInt := Int32.le_iff_toInt_le.mp cab46b55_1
                                  have iab46b55_3 : iv v55_6 2 8 := iv_Er cab46b55_2 jv55_3 iv55_6 (by decide)
                                  refine i_inc hx hb dX10_hankel_91 hl (k := 4) rfl jv55_5 rfl (lo := 2) (hi := 8) (by decide) (by decide) (lv' := fun v => [(5, .int v), (0, .ref u0), (2, .int u2), (3, .int u3), (4, .ref qa_7), (6, .int v55_6)]) (fun _ => rfl) (fun zab46b55_4 ls ezab46b55_4 mzab46b55_4 izab46b55_4 hl => ?_)
                                  refine lv_goto (tgt := 46) hx hb dX10_hankel_94 (by decide) ?_
                                  exact ih46 ls f_55 H locs zab46b55_4 g55_qa_7_3 (show 8 - zab46b55_4.toInt < _ by omega) (lv_cons hl 1 rfl (lv_cons hl 2 rfl (lv_cons hl 3 rfl (lv_cons hl 4 rfl (lv_cons hl 0 rfl (lv_nil hl)))))) h t_55 o_55 jv55_2 (iv_w jv55_3 (by decide)) (iv_w izab46b55_4 (by decide)) tg55_qa_7_3 k55_u0_2 k55_gq_GJ k55_qa_7_3
                                · have cab46b55_2 : v55_6.toInt < u3.toInt := Int32.lt_iff_toInt_lt.mp (iv_nle cab46b55_1)
                                  have iab46b55_3 : iv v55_6 0 7 := iv_Ll cab46b55_2 iv55_6 jv55_3 (by decide)
                                  refine lv_aload_n hx hb dX10_hankel_61 rfl (lv_at hl 0 rfl) ?_
                                  refine t_getr (tq := 40) C h t_55 ha_46 (by decide) wf_10 rfl fl_X10_47 dX10_hankel_62 (fun qab46b55_4 tqab46b55_4 => ?_)
                                  refine lv_iload hx hb dX10_hankel_65 (lv_at hl 4 rfl) ?_
                                  refine lv_iload hx hb dX10_hankel_67 (lv_at hl 5 rfl) ?_
                                  refine lv_aload_n hx hb dX10_hankel_69 rfl (lv_at hl 0 rfl) ?_
                                  refine lv_aload hx hb dX10_hankel_70 (lv_at hl 3 rfl) ?_
                                  refine lv_iload_n hx hb dX10_hankel_72 rfl (lv_at hl 1 rfl) ?_
                                  refine lv_iload hx hb dX10_hankel_73 (lv_at hl 4 rfl) ?_
                                  refine lv_iload hx hb dX10_hankel_75 (lv_at hl 5 rfl) ?_
                                  refine i_add hx hb dX10_hankel_77 jv55_5 iab46b55_3 (lo := 1) (hi := 14) (by decide) (fun zab46b55_5 ezab46b55_5 mzab46b55_5 izab46b55_5 => ?_)
                                  obtain ⟨_, rab46b55_6⟩ := t_rec t_55 ha_46 (by decide) wf_10
                                  refine k_i (r_V C h hl (As := [.ref qa_7, .int u2, .int zab46b55_5]) (rest := [.int v55_6, .int v46_5, .ref qab46b55_4]) (s_X10_termB l D G b0 τfa_41 f_55 t_55 u0 ha_46 qa_7 ha_47 u2 jv55_2 zab46b55_5 (iv_w izab46b55_5 (by decide)) g55_qa_7_3 tg55_qa_7_3 k55_qa_7_3) rab46b55_6 (Cn := RX10) (T := TX10) (N := 10) rfl rfl mk_X10_term w_724 w_726 w_17 w_727 ⟨Nat.le_of_ble_eq_true rfl, Nat.le_of_ble_eq_true rfl⟩ rfl (Nat.le_of_ble_eq_true rfl) ⟨Nat.le_of_ble_eq_true rfl, Nat.le_of_ble_eq_true rfl⟩ rfl dX10_hankel_78) h (fun rab46b55_7 fab46b55_8 H locs pab46b55_9 h => ?_)
                                  obtain ⟨irab46b55_7, tfab46b55_8, ogfab46b55_8, ⟨ztfab46b55_8, ttfab46b55_8, ktfab46b55_8⟩⟩ := pab46b55_9
                                  have egfab46b55_8 := Fr.nil2 ogfab46b55_8
                                  subst egfab46b55_8
                                  refine lv_i2l hx hb dX10_hankel_81 rfl (i_topL irab46b55_7 (fun wab46b55_10 ewab46b55_10 mwab46b55_10 iwab46b55_10 => ?_))
                                  obtain ⟨_, rab46b55_11⟩ := t_rec t_55 tqab46b55_4 (by decide) wf_40
                                  refine k_v (r_V C h hl (As := [.int v46_5, .int v55_6, .long wab46b55_10]) (rest := []) (s_X4_put l D G b0 τfa_41 f_55 t_55 qab46b55_4 tqab46b55_4 v46_5 (iv_w jv55_5 (by decide)) v55_6 (iv_w iab46b55_3 (by decide)) wab46b55_10) rab46b55_11 (Cn := RX4) (T := TX4) (N := 4) rfl rfl mk_X4_put w_792 w_793 w_794 w_795 ⟨Nat.le_of_ble_eq_true rfl, Nat.le_of_ble_eq_true rfl⟩ rfl (Nat.le_of_ble_eq_true rfl) ⟨Nat.le_of_ble_eq_true rfl, Nat.le_of_ble_eq_true rfl⟩ rfl dX10_hankel_82) h (fun fab46b55_13 H locs pab46b55_14 h => ?_)
                                  obtain ⟨tfab46b55_13, ogfab46b55_13⟩ := pab46b55_14
                                  have ofab46b55_13 : Fr [0, 1, 3, 20, 21, 22, 23, 24, 25, 40, 41, 42, 1004, 20001, 20002, 20007, 20008, 20009, 20010, 20011, 22001, 22002, 22003, 22004, 23001, 23002, 23003, 23004, 40002, 40003, 40004] τfa_41 fa_41 fab46b55_13 := Fr.tr o_55 ogfab46b55_13 (by decide) (by decide)
                                  have kab46b55_15 := atp.fr k55_u0_2 ogfab46b55_13 ha_46 (by decide)
                                  have kab46b55_16 := GJ.fr k55_gq_GJ ogfab46b55_13 ha_48 (by decide)
                                  have kab46b55_17 := atp.fr ktfab46b55_8 ogfab46b55_13 ha_47 (by decide)
                                  refine i_inc hx hb dX10_hankel_85 hl (k := 5) rfl iab46b55_3 rfl (lo := 1) (hi := 8) (by decide) (by decide) (lv' := fun v => [(6, .int v), (0, .ref u0), (2, .int u2), (3, .int u3), (4, .ref qa_7), (5, .int v46_5)]) (fun _ => rfl) (fun zab46b55_18 ls ezab46b55_18 mzab46b55_18 izab46b55_18 hl => ?_)
                                  refine lv_goto (tgt := 55) hx hb dX10_hankel_88 (by decide) ?_
                                  exact ih55 ls fab46b55_13 H locs zab46b55_18 ztfab46b55_8 (show 8 - zab46b55_18.toInt < _ by omega) (lv_cons hl 1 rfl (lv_cons hl 2 rfl (lv_cons hl 3 rfl (lv_cons hl 4 rfl (lv_cons hl 5 rfl (lv_cons hl 0 rfl (lv_nil hl))))))) h tfab46b55_13 ofab46b55_13 jv55_2 jv55_3 jv55_5 (iv_w izab46b55_18 (by decide)) ttfab46b55_8 kab46b55_15 kab46b55_16 kab46b55_17
                            exact L55 9 ls f_46 H locs 0 g46_qa_7_3 (by decide) (lv_cons hl 1 rfl (lv_cons hl 2 rfl (lv_cons hl 3 rfl (lv_cons hl 4 rfl (lv_cons hl 5 rfl (lv_cons hl 0 rfl (lv_nil hl))))))) h t_46 o_46 jv46_2 iab46_4 iab46_3 ⟨by decide, by decide⟩ tg46_qa_7_3 k46_u0_2 k46_gq_GJ k46_qa_7_3
                      exact L46 8 ls fa_116 H locs 1 ztfa_111 (by decide) (lv_cons hl 3 rfl (lv_cons hl 5 rfl (lv_cons hl 6 rfl (lv_cons hl 2 rfl (lv_cons hl 0 rfl (lv_nil hl)))))) h tfa_116 ofa_116 ia_15 (iv_w ia_123 (by decide)) ⟨by decide, by decide⟩ ttfa_111 ka_118 ka_119 ka_120
                    · have ca_122 : 5 < u3.toInt := Int32.lt_iff_toInt_lt.mp (iv_nle ca_121)
                      have ia_123 : iv u3 6 8 := iv_Lr ca_122 (iv_k (x := 5) (k := 5) rfl) ia_107 (by decide)
                      refine lv_aload_n hx hb dX10_hankel_61 rfl (lv_at hl 3 rfl) ?_
                      refine t_getr (tq := 40) C h tfa_116 ha_46 (by decide) wf_10 rfl fl_X10_47 dX10_hankel_62 (fun qa_124 tqa_124 => ?_)
                      refine lv_iload hx hb dX10_hankel_65 (lv_at hl 1 rfl) ?_
                      refine lv_iload hx hb dX10_hankel_67 (lv_at hl 0 rfl) ?_
                      refine lv_aload_n hx hb dX10_hankel_69 rfl (lv_at hl 3 rfl) ?_
                      refine lv_aload hx hb dX10_hankel_70 (lv_at hl 2 rfl) ?_
                      refine lv_iload_n hx hb dX10_hankel_72 rfl (lv_at hl 5 rfl) ?_
                      refine lv_iload hx hb dX10_hankel_73 (lv_at hl 1 rfl) ?_
                      refine lv_iload hx hb dX10_hankel_75 (lv_at hl 0 rfl) ?_
                      refine lv_iadd hx hb dX10_hankel_77 (lv_topi (fun x_ e_ => ?_))
                      obtain rfl : 5 = x_ := by rw [e_]; decide
                      obtain ⟨_, ra_125⟩ := t_rec tfa_116 ha_46 (by decide) wf_10
                      refine k_i (r_V C h hl (As := [.ref qa_7, .int u2, .int 5]) (rest := [.int 5, .int 0, .ref qa_124]) (s_X10_termB l D G b0 τfa_41 fa_116 tfa_116 u0 ha_46 qa_7 ha_47 u2 ia_15 5 (iv_w (iv_k (x := 5) (k := 5) rfl) (by decide)) ztfa_111 ttfa_111 ka_120) ra_125 (Cn := RX10) (T := TX10) (N := 10) rfl rfl mk_X10_term w_724 w_726 w_17 w_727 ⟨Nat.le_of_ble_eq_true rfl, Nat.le_of_ble_eq_true rfl⟩ rfl (Nat.le_of_ble_eq_true rfl) ⟨Nat.le_of_ble_eq_true rfl, Nat.le_of_ble_eq_true rfl⟩ rfl dX10_hankel_78) h (fun ra_126 fa_127 H locs pa_128 h => ?_)
                      obtain ⟨ira_126, tfa_127, ogfa_127, ⟨ztfa_127, ttfa_127, ktfa_127⟩⟩ := pa_128
                      have egfa_127 := Fr.nil2 ogfa_127
                      subst egfa_127
                      refine lv_i2l hx hb dX10_hankel_81 rfl (i_topL ira_126 (fun wa_129 ewa_129 mwa_129 iwa_129 => ?_))
                      obtain ⟨_, ra_130⟩ := t_rec tfa_116 tqa_124 (by decide) wf_40
                      refine k_v (r_V C h hl (As := [.int 0, .int 5, .long wa_129]) (rest := []) (s_X4_put l D G b0 τfa_41 fa_116 tfa_116 qa_124 tqa_124 0 (iv_w (iv_k (x := 0) (k := 0) rfl) (by decide)) 5 (iv_w (iv_k (x := 5) (k := 5) rfl) (by decide)) wa_129) ra_130 (Cn := RX4) (T := TX4) (N := 4) rfl rfl mk_X4_put w_792 w_793 w_794 w_795 ⟨Nat.le_of_ble_eq_true rfl, Nat.le_of_ble_eq_true rfl⟩ rfl (Nat.le_of_ble_eq_true rfl) ⟨Nat.le_of_ble_eq_true rfl, Nat.le_of_ble_eq_true rfl⟩ rfl dX10_hankel_82) h (fun fa_132 H locs pa_133 h => ?_)
                      obtain ⟨tfa_132, ogfa_132⟩ := pa_133
                      have ofa_132 : Fr [0, 1, 3, 20, 21, 22, 23, 24, 25, 40, 41, 42, 1004, 20001, 20002, 20007, 20008, 20009, 20010, 20011, 22001, 22002, 22003, 22004, 23001, 23002, 23003, 23004, 40002, 40003, 40004] τfa_41 fa_41 fa_132 := Fr.tr ofa_116 ogfa_132 (by decide) (by decide)
                      have ka_134 := atp.fr ka_118 ogfa_132 ha_46 (by decide)
                      have ka_135 := GJ.fr ka_119 ogfa_132 ha_48 (by decide)
                      have ka_136 := atp.fr ktfa_127 ogfa_132 ha_47 (by decide)
                      refine lv_iinc (v := 6) (lv' := [(6, .int 6), (5, .int 0), (4, .ref qa_7), (0, .ref u0), (1, .int u1), (2, .int u2), (3, .int u3)]) hx hb dX10_hankel_85 hl (k := 0) rfl (by decide) (by decide) rfl (fun ls hl => ?_)
                      refine lv_goto (tgt := 55) hx hb dX10_hankel_88 (by decide) ?_
                      refine lv_iload hx hb dX10_hankel_55 (lv_at hl 0 rfl) ?_
                      refine lv_iload_n hx hb dX10_hankel_57 rfl (lv_at hl 6 rfl) ?_
                      refine lv_icmp_ge (tgt := 91) hx hb dX10_hankel_58 (by decide) (fun ca_137 => ?_) (fun ca_137 => ?_)
                      · have ca_138 : u3.toInt ≤ 6 := Int32.le_iff_toInt_le.mp ca_137
                        have ia_139 : iv u3 6 6 := iv_El ca_138 ia_123 (iv_k (x := 6) (k := 6) rfl) (by decide)
                        refine lv_iinc (v := 1) (lv' := [(5, .int 1), (6, .int 6), (4, .ref qa_7), (0, .ref u0), (1, .int u1), (2, .int u2), (3, .int u3)]) hx hb dX10_hankel_91 hl (k := 1) rfl (by decide) (by decide) rfl (fun ls hl => ?_)
                        refine lv_goto (tgt := 46) hx hb dX10_hankel_94 (by decide) ?_
                        have L46 : ∀ (n46 : Nat) (ls : Array Slot) (f_46 : hM) (H : Heap) (locs : List Loc) (v46_5 : Int32) (g46_qa_7_3 : Nat), 8 - v46_5.toInt < (n46 : Int) → lv_has ls 7 [(0, .ref u0), (2, .int u2), (3, .int u3), (4, .ref qa_7), (5, .int v46_5)] → hw D b0 s.heap f_46 H locs → TI G 9 τfa_41 f_46 → Fr [0, 1, 3, 20, 21, 22, 23, 24, 25, 40, 41, 42, 1004, 20001, 20002, 20007, 20008, 20009, 20010, 20011, 22001, 22002, 22003, 22004, 23001, 23002, 23003, 23004, 40002, 40003, 40004] τfa_41 fa_41 f_46 → iv u2 0 4 → iv u3 1 8 → iv v46_5 1 8 → τfa_41 g46_qa_7_3 = 3 → atp f_46 u0 (fd 2 (.ref gq)) → GJ τfa_41 f_46 gq rq mq → atp f_46 qa_7 (fd 3 (.ref g46_qa_7_3)) → W p l e rm_s_X10_hankel s m args below meth c H locs 1 305 Q (F0 m 46 ls []) := by
                          intro n46
                          induction n46 with
                          | zero => intro ls f_46 H locs v46_5 g46_qa_7_3 hm46 hl h t_46 o_46 jv46_2 jv46_3 iv46_5 tg46_qa_7_3 k46_u0_2 k46_gq_GJ k46_qa_7_3; exact absurd hm46 (by omega)
                          | succ n46 ih46 =>
                            intro ls f_46 H locs v46_5 g46_qa_7_3 hm46 hl h t_46 o_46 jv46_2 jv46_3 iv46_5 tg46_qa_7_3 k46_u0_2 k46_gq_GJ k46_qa_7_3
                            refine lv_iload hx hb dX10_hankel_46 (lv_at hl 4 rfl) ?_
                            refine lv_iload_n hx hb dX10_hankel_48 rfl (lv_at hl 2 rfl) ?_
                            refine lv_icmp_ge (tgt := 97) hx hb dX10_hankel_49 (by decide) (fun cab46_1 => ?_) (fun cab46_1 => ?_)
                            · have cab46_2 : u3.toInt ≤ v46_5.toInt := Int32.le_iff_toInt_le.mp cab46_1
                              refine lv_aload_n hx hb dX10_hankel_97 rfl (lv_at hl 0 rfl) ?_
                              refine t_getr (tq := 40) C h t_46 ha_46 (by decide) wf_10 rfl fl_X10_47 dX10_hankel_98 (fun qab46_3 tqab46_3 => ?_)
                              obtain ⟨_, rab46_4⟩ := t_rec t_46 tqab46_3 (by decide) wf_40
                              refine k_i (r_V C h hl (As := []) (rest := []) (s_X4_determinant l D G b0 τfa_41 f_46 t_46 qab46_3 tqab46_3) rab46_4 (Cn := RX4) (T := TX4) (N := 4) rfl rfl mk_X4_determinant w_827 w_828 w_829 w_830 ⟨Nat.le_of_ble_eq_true rfl, Nat.le_of_ble_eq_true rfl⟩ rfl (Nat.le_of_ble_eq_true rfl) ⟨Nat.le_of_ble_eq_true rfl, Nat.le_of_ble_eq_true rfl⟩ rfl dX10_hankel_101) h (fun rab46_5 fab46_6 H locs pab46_7 h => ?_)
                              obtain ⟨irab46_5, tfab46_6, ogfab46_6⟩ := pab46_7
                              have ofab46_6 : Fr [0, 1, 3, 20, 21, 22, 23, 24, 25, 40, 41, 42, 1004, 20001, 20002, 20007, 20008, 20009, 20010, 20011, 22001, 22002, 22003, 22004, 23001, 23002, 23003, 23004, 40002, 40003, 40004] τfa_41 fa_41 fab46_6 := Fr.tr o_46 ogfab46_6 (by decide) (by decide)
                              have kab46_8 := atp.fr k46_u0_2 ogfab46_6 ha_46 (by decide)
                              have kab46_9 := GJ.fr k46_gq_GJ ogfab46_6 ha_48 (by decide)
                              have kab46_10 := atp.fr k46_qa_7_3 ogfab46_6 ha_47 (by decide)
                              exact u_iret C h hr hQ (⟨τfa_41, xfa_41, irab46_5, tfab46_6, (Fr.tr Ofa_41 (Fr.cv xfa_41 ofab46_6 (by decide) (fun _ h_ => h_)) (fun _ h_ => h_) (fun _ h_ => h_)), kab46_9⟩) (Nat.le_of_ble_eq_true rfl) (Nat.le_of_ble_eq_true rfl) dX10_hankel_104
                            · have cab46_2 : v46_5.toInt < u3.toInt := Int32.lt_iff_toInt_lt.mp (iv_nle cab46_1)
                              have iab46_3 : iv v46_5 1 7 := iv_Ll cab46_2 iv46_5 jv46_3 (by decide)
                              have iab46_4 : iv u3 2 8 := iv_Lr cab46_2 iv46_5 jv46_3 (by decide)
                              refine lv_iconst (v := 0) hx hb dX10_hankel_52 (by decide) ?_
                              refine lv_istore (lv' := [(6, .int 0), (0, .ref u0), (2, .int u2), (3, .int u3), (4, .ref qa_7), (5, .int v46_5)]) hx hb dX10_hankel_53 hl (by decide) rfl (fun ls hl => ?_)
                              have L55 : ∀ (n55 : Nat) (ls : Array Slot) (f_55 : hM) (H : Heap) (locs : List Loc) (v55_6 : Int32) (g55_qa_7_3 : Nat), 8 - v55_6.toInt < (n55 : Int) → lv_has ls 7 [(0, .ref u0), (2, .int u2), (3, .int u3), (4, .ref qa_7), (5, .int v46_5), (6, .int v55_6)] → hw D b0 s.heap f_55 H locs → TI G 9 τfa_41 f_55 → Fr [0, 1, 3, 20, 21, 22, 23, 24, 25, 40, 41, 42, 1004, 20001, 20002, 20007, 20008, 20009, 20010, 20011, 22001, 22002, 22003, 22004, 23001, 23002, 23003, 23004, 40002, 40003, 40004] τfa_41 fa_41 f_55 → iv u2 0 4 → iv u3 2 8 → iv v46_5 1 7 → iv v55_6 0 8 → τfa_41 g55_qa_7_3 = 3 → atp f_55 u0 (fd 2 (.ref gq)) → GJ τfa_41 f_55 gq rq mq → atp f_55 qa_7 (fd 3 (.ref g55_qa_7_3)) → W p l e rm_s_X10_hankel s m args below meth c H locs 1 305 Q (F0 m 55 ls []) := by
                                intro n55
                                induction n55 with
                                | zero => intro ls f_55 H locs v55_6 g55_qa_7_3 hm55 hl h t_55 o_55 jv55_2 jv55_3 jv55_5 iv55_6 tg55_qa_7_3 k55_u0_2 k55_gq_GJ k55_qa_7_3; exact absurd hm55 (by omega)
                                | succ n55 ih55 =>
                                  intro ls f_55 H locs v55_6 g55_qa_7_3 hm55 hl h t_55 o_55 jv55_2 jv55_3 jv55_5 iv55_6 tg55_qa_7_3 k55_u0_2 k55_gq_GJ k55_qa_7_3
                                  refine lv_iload hx hb dX10_hankel_55 (lv_at hl 5 rfl) ?_
                                  refine lv_iload_n hx hb dX10_hankel_57 rfl (lv_at hl 2 rfl) ?_
                                  refine lv_icmp_ge (tgt := 91) hx hb dX10_hankel_58 (by decide) (fun cab46b55_1 => ?_) (fun cab46b55_1 => ?_)
                                  · have cab46b55_2 : u3.toInt ≤ v55_6.toInt := Int32.le_iff_toInt_le.mp cab46b55_1
                                    have iab46b55_3 : iv v55_6 2 8 := iv_Er cab46b55_2 jv55_3 iv55_6 (by decide)
                                    refine i_inc hx hb dX10_hankel_91 hl (k := 4) rfl jv55_5 rfl (lo := 2) (hi := 8) (by decide) (by decide) (lv' := fun v => [(5, .int v), (0, .ref u0), (2, .int u2), (3, .int u3), (4, .ref qa_7), (6, .int v55_6)]) (fun _ => rfl) (fun zab46b55_4 ls ezab46b55_4 mzab46b55_4 izab46b55_4 hl => ?_)
                                    refine lv_goto (tgt := 46) hx hb dX10_hankel_94 (by decide) ?_
                                    exact ih46 ls f_55 H locs zab46b55_4 g55_qa_7_3 (show 8 - zab46b55_4.toInt < _ by omega) (lv_cons hl 1 rfl (lv_cons hl 2 rfl (lv_cons hl 3 rfl (lv_cons hl 4 rfl (lv_cons hl 0 rfl (lv_nil hl)))))) h t_55 o_55 jv55_2 (iv_w jv55_3 (by decide)) (iv_w izab46b55_4 (by decide)) tg55_qa_7_3 k55_u0_2 k55_gq_GJ k55_qa_7_3
                                  · have cab46b55_2 : v55_6.toInt < u3.toInt := Int32.lt_iff_toInt_lt.mp (iv_nle cab46b55_1)
                                    have iab46b55_3 : iv v55_6 0 7 := iv_Ll cab46b55_2 iv55_6 jv55_3 (by decide)
                                    refine lv_aload_n hx hb dX10_hankel_61 rfl (lv_at hl 0 rfl) ?_
                                    refine t_getr (tq := 40) C h t_55 ha_46 (by decide) wf_10 rfl fl_X10_47 dX10_hankel_62 (fun qab46b55_4 tqab46b55_4 => ?_)
                                    refine lv_iload hx hb dX10_hankel_65 (lv_at hl 4 rfl) ?_
                                    refine lv_iload hx hb dX10_hankel_67 (lv_at hl 5 rfl) ?_
                                    refine lv_aload_n hx hb dX10_hankel_69 rfl (lv_at hl 0 rfl) ?_
                                    refine lv_aload hx hb dX10_hankel_70 (lv_at hl 3 rfl) ?_
                                    refine lv_iload_n hx hb dX10_hankel_72 rfl (lv_at hl 1 rfl) ?_
                                    refine lv_iload hx hb dX10_hankel_73 (lv_at hl 4 rfl) ?_
                                    refine lv_iload hx hb dX10_hankel_75 (lv_at hl 5 rfl) ?_
                                    refine i_add hx hb dX10_hankel_77 jv55_5 iab46b55_3 (lo := 1) (hi := 14) (by decide) (fun zab46b55_5 ezab46b55_5 mzab46b55_5 izab46b55_5 => ?_)
                                    obtain ⟨_, rab46b55_6⟩ := t_rec t_55 ha_46 (by decide) wf_10
                                    refine k_i (r_V C h hl (As := [.ref qa_7, .int u2, .int zab46b55_5]) (rest := [.int v55_6, .int v46_5, .ref qab46b55_4]) (s_X10_termB l D G b0 τfa_41 f_55 t_55 u0 ha_46 qa_7 ha_47 u2 jv55_2 zab46b55_5 (iv_w izab46b55_5 (by decide)) g55_qa_7_3 tg55_qa_7_3 k55_qa_7_3) rab46b55_6 (Cn := RX10) (T := TX10) (N := 10) rfl rfl mk_X10_term w_724 w_726 w_17 w_727 ⟨Nat.le_of_ble_eq_true rfl, Nat.le_of_ble_eq_true rfl⟩ rfl (Nat.le_of_ble_eq_true rfl) ⟨Nat.le_of_ble_eq_true rfl, Nat.le_of_ble_eq_true rfl⟩ rfl dX10_hankel_78) h (fun rab46b55_7 fab46b55_8 H locs pab46b55_9 h => ?_)
                                    obtain ⟨irab46b55_7, tfab46b55_8, ogfab46b55_8, ⟨ztfab46b55_8, ttfab46b55_8, ktfab46b55_8⟩⟩ := pab46b55_9
                                    have egfab46b55_8 := Fr.nil2 ogfab46b55_8
                                    subst egfab46b55_8
                                    refine lv_i2l hx hb dX10_hankel_81 rfl (i_topL irab46b55_7 (fun wab46b55_10 ewab46b55_10 mwab46b55_10 iwab46b55_10 => ?_))
                                    obtain ⟨_, rab46b55_11⟩ := t_rec t_55 tqab46b55_4 (by decide) wf_40
                                    refine k_v (r_V C h hl (As := [.int v46_5, .int v55_6, .long wab46b55_10]) (rest := []) (s_X4_put l D G b0 τfa_41 f_55 t_55 qab46b55_4 tqab46b55_4 v46_5 (iv_w jv55_5 (by decide)) v55_6 (iv_w iab46b55_3 (by decide)) wab46b55_10) rab46b55_11 (Cn := RX4) (T := TX4) (N := 4) rfl rfl mk_X4_put w_792 w_793 w_794 w_795 ⟨Nat.le_of_ble_eq_true rfl, Nat.le_of_ble_eq_true rfl⟩ rfl (Nat.le_of_ble_eq_true rfl) ⟨Nat.le_of_ble_eq_true rfl, Nat.le_of_ble_eq_true rfl⟩ rfl dX10_hankel_82) h (fun fab46b55_13 H locs pab46b55_14 h => ?_)
                                    obtain ⟨tfab46b55_13, ogfab46b55_13⟩ := pab46b55_14
                                    have ofab46b55_13 : Fr [0, 1, 3, 20, 21, 22, 23, 24, 25, 40, 41, 42, 1004, 20001, 20002, 20007, 20008, 20009, 20010, 20011, 22001, 22002, 22003, 22004, 23001, 23002, 23003, 23004, 40002, 40003, 40004] τfa_41 fa_41 fab46b55_13 := Fr.tr o_55 ogfab46b55_13 (by decide) (by decide)
                                    have kab46b55_15 := atp.fr k55_u0_2 ogfab46b55_13 ha_46 (by decide)
                                    have kab46b55_16 := GJ.fr k55_gq_GJ ogfab46b55_13 ha_48 (by decide)
                                    have kab46b55_17 := atp.fr ktfab46b55_8 ogfab46b55_13 ha_47 (by decide)
                                    refine i_inc hx hb dX10_hankel_85 hl (k := 5) rfl iab46b55_3 rfl (lo := 1) (hi := 8) (by decide) (by decide) (lv' := fun v => [(6, .int v), (0, .ref u0), (2, .int u2), (3, .int u3), (4, .ref qa_7), (5, .int v46_5)]) (fun _ => rfl) (fun zab46b55_18 ls ezab46b55_18 mzab46b55_18 izab46b55_18 hl => ?_)
                                    refine lv_goto (tgt := 55) hx hb dX10_hankel_88 (by decide) ?_
                                    exact ih55 ls fab46b55_13 H locs zab46b55_18 ztfab46b55_8 (show 8 - zab46b55_18.toInt < _ by omega) (lv_cons hl 1 rfl (lv_cons hl 2 rfl (lv_cons hl 3 rfl (lv_cons hl 4 rfl (lv_cons hl 5 rfl (lv_cons hl 0 rfl (lv_nil hl))))))) h tfab46b55_13 ofab46b55_13 jv55_2 jv55_3 jv55_5 (iv_w izab46b55_18 (by decide)) ttfab46b55_8 kab46b55_15 kab46b55_16 kab46b55_17
                              exact L55 9 ls f_46 H locs 0 g46_qa_7_3 (by decide) (lv_cons hl 1 rfl (lv_cons hl 2 rfl (lv_cons hl 3 rfl (lv_cons hl 4 rfl (lv_cons hl 5 rfl (lv_cons hl 0 rfl (lv_nil hl))))))) h t_46 o_46 jv46_2 iab46_4 iab46_3 ⟨by decide, by decide⟩ tg46_qa_7_3 k46_u0_2 k46_gq_GJ k46_qa_7_3
                        exact L46 8 ls fa_132 H locs 1 ztfa_127 (by decide) (lv_cons hl 3 rfl (lv_cons hl 5 rfl (lv_cons hl 6 rfl (lv_cons hl 2 rfl (lv_cons hl 0 rfl (lv_nil hl)))))) h tfa_132 ofa_132 ia_15 (iv_w ia_139 (by decide)) ⟨by decide, by decide⟩ ttfa_127 ka_134 ka_135 ka_136
                      · have ca_138 : 6 < u3.toInt := Int32.lt_iff_toInt_lt.mp (iv_nle ca_137)
                        have ia_139 : iv u3 7 8 := iv_Lr ca_138 (iv_k (x := 6) (k := 6) rfl) ia_123 (by decide)
                        refine lv_aload_n hx hb dX10_hankel_61 rfl (lv_at hl 3 rfl) ?_
                        refine t_getr (tq := 40) C h tfa_132 ha_46 (by decide) wf_10 rfl fl_X10_47 dX10_hankel_62 (fun qa_140 tqa_140 => ?_)
                        refine lv_iload hx hb dX10_hankel_65 (lv_at hl 1 rfl) ?_
                        refine lv_iload hx hb dX10_hankel_67 (lv_at hl 0 rfl) ?_
                        refine lv_aload_n hx hb dX10_hankel_69 rfl (lv_at hl 3 rfl) ?_
                        refine lv_aload hx hb dX10_hankel_70 (lv_at hl 2 rfl) ?_
                        refine lv_iload_n hx hb dX10_hankel_72 rfl (lv_at hl 5 rfl) ?_
                        refine lv_iload hx hb dX10_hankel_73 (lv_at hl 1 rfl) ?_
                        refine lv_iload hx hb dX10_hankel_75 (lv_at hl 0 rfl) ?_
                        refine lv_iadd hx hb dX10_hankel_77 (lv_topi (fun x_ e_ => ?_))
                        obtain rfl : 6 = x_ := by rw [e_]; decide
                        obtain ⟨_, ra_141⟩ := t_rec tfa_132 ha_46 (by decide) wf_10
                        refine k_i (r_V C h hl (As := [.ref qa_7, .int u2, .int 6]) (rest := [.int 6, .int 0, .ref qa_140]) (s_X10_termB l D G b0 τfa_41 fa_132 tfa_132 u0 ha_46 qa_7 ha_47 u2 ia_15 6 (iv_w (iv_k (x := 6) (k := 6) rfl) (by decide)) ztfa_127 ttfa_127 ka_136) ra_141 (Cn := RX10) (T := TX10) (N := 10) rfl rfl mk_X10_term w_724 w_726 w_17 w_727 ⟨Nat.le_of_ble_eq_true rfl, Nat.le_of_ble_eq_true rfl⟩ rfl (Nat.le_of_ble_eq_true rfl) ⟨Nat.le_of_ble_eq_true rfl, Nat.le_of_ble_eq_true rfl⟩ rfl dX10_hankel_78) h (fun ra_142 fa_143 H locs pa_144 h => ?_)
                        obtain ⟨ira_142, tfa_143, ogfa_143, ⟨ztfa_143, ttfa_143, ktfa_143⟩⟩ := pa_144
                        have egfa_143 := Fr.nil2 ogfa_143
                        subst egfa_143
                        refine lv_i2l hx hb dX10_hankel_81 rfl (i_topL ira_142 (fun wa_145 ewa_145 mwa_145 iwa_145 => ?_))
                        obtain ⟨_, ra_146⟩ := t_rec tfa_132 tqa_140 (by decide) wf_40
                        refine k_v (r_V C h hl (As := [.int 0, .int 6, .long wa_145]) (rest := []) (s_X4_put l D G b0 τfa_41 fa_132 tfa_132 qa_140 tqa_140 0 (iv_w (iv_k (x := 0) (k := 0) rfl) (by decide)) 6 (iv_w (iv_k (x := 6) (k := 6) rfl) (by decide)) wa_145) ra_146 (Cn := RX4) (T := TX4) (N := 4) rfl rfl mk_X4_put w_792 w_793 w_794 w_795 ⟨Nat.le_of_ble_eq_true rfl, Nat.le_of_ble_eq_true rfl⟩ rfl (Nat.le_of_ble_eq_true rfl) ⟨Nat.le_of_ble_eq_true rfl, Nat.le_of_ble_eq_true rfl⟩ rfl dX10_hankel_82) h (fun fa_148 H locs pa_149 h => ?_)
                        obtain ⟨tfa_148, ogfa_148⟩ := pa_149
                        have ofa_148 : Fr [0, 1, 3, 20, 21, 22, 23, 24, 25, 40, 41, 42, 1004, 20001, 20002, 20007, 20008, 20009, 20010, 20011, 22001, 22002, 22003, 22004, 23001, 23002, 23003, 23004, 40002, 40003, 40004] τfa_41 fa_41 fa_148 := Fr.tr ofa_132 ogfa_148 (by decide) (by decide)
                        have ka_150 := atp.fr ka_134 ogfa_148 ha_46 (by decide)
                        have ka_151 := GJ.fr ka_135 ogfa_148 ha_48 (by decide)
                        have ka_152 := atp.fr ktfa_143 ogfa_148 ha_47 (by decide)
                        refine lv_iinc (v := 7) (lv' := [(6, .int 7), (5, .int 0), (4, .ref qa_7), (0, .ref u0), (1, .int u1), (2, .int u2), (3, .int u3)]) hx hb dX10_hankel_85 hl (k := 0) rfl (by decide) (by decide) rfl (fun ls hl => ?_)
                        refine lv_goto (tgt := 55) hx hb dX10_hankel_88 (by decide) ?_
                        refine lv_iload hx hb dX10_hankel_55 (lv_at hl 0 rfl) ?_
                        refine lv_iload_n hx hb dX10_hankel_57 rfl (lv_at hl 6 rfl) ?_
                        refine lv_icmp_ge (tgt := 91) hx hb dX10_hankel_58 (by decide) (fun ca_153 => ?_) (fun ca_153 => ?_)
                        · have ca_154 : u3.toInt ≤ 7 := Int32.le_iff_toInt_le.mp ca_153
                          have ia_155 : iv u3 7 7 := iv_El ca_154 ia_139 (iv_k (x := 7) (k := 7) rfl) (by decide)
                          refine lv_iinc (v := 1) (lv' := [(5, .int 1), (6, .int 7), (4, .ref qa_7), (0, .ref u0), (1, .int u1), (2, .int u2), (3, .int u3)]) hx hb dX10_hankel_91 hl (k := 1) rfl (by decide) (by decide) rfl (fun ls hl => ?_)
                          refine lv_goto (tgt := 46) hx hb dX10_hankel_94 (by decide) ?_
                          have L46 : ∀ (n46 : Nat) (ls : Array Slot) (f_46 : hM) (H : Heap) (locs : List Loc) (v46_5 : Int32) (g46_qa_7_3 : Nat), 8 - v46_5.toInt < (n46 : Int) → lv_has ls 7 [(0, .ref u0), (2, .int u2), (3, .int u3), (4, .ref qa_7), (5, .int v46_5)] → hw D b0 s.heap f_46 H locs → TI G 9 τfa_41 f_46 → Fr [0, 1, 3, 20, 21, 22, 23, 24, 25, 40, 41, 42, 1004, 20001, 20002, 20007, 20008, 20009, 20010, 20011, 22001, 22002, 22003, 22004, 23001, 23002, 23003, 23004, 40002, 40003, 40004] τfa_41 fa_41 f_46 → iv u2 0 4 → iv u3 1 8 → iv v46_5 1 8 → τfa_41 g46_qa_7_3 = 3 → atp f_46 u0 (fd 2 (.ref gq)) → GJ τfa_41 f_46 gq rq mq → atp f_46 qa_7 (fd 3 (.ref g46_qa_7_3)) → W p l e rm_s_X10_hankel s m args below meth c H locs 1 305 Q (F0 m 46 ls []) := by
                            intro n46
                            induction n46 with
                            | zero => intro ls f_46 H locs v46_5 g46_qa_7_3 hm46 hl h t_46 o_46 jv46_2 jv46_3 iv46_5 tg46_qa_7_3 k46_u0_2 k46_gq_GJ k46_qa_7_3; exact absurd hm46 (by omega)
                            | succ n46 ih46 =>
                              intro ls f_46 H locs v46_5 g46_qa_7_3 hm46 hl h t_46 o_46 jv46_2 jv46_3 iv46_5 tg46_qa_7_3 k46_u0_2 k46_gq_GJ k46_qa_7_3
                              refine lv_iload hx hb dX10_hankel_46 (lv_at hl 4 rfl) ?_
                              refine lv_iload_n hx hb dX10_hankel_48 rfl (lv_at hl 2 rfl) ?_
                              refine lv_icmp_ge (tgt := 97) hx hb dX10_hankel_49 (by decide) (fun cab46_1 => ?_) (fun cab46_1 => ?_)
                              · have cab46_2 : u3.toInt ≤ v46_5.toInt := Int32.le_iff_toInt_le.mp cab46_1
                                refine lv_aload_n hx hb dX10_hankel_97 rfl (lv_at hl 0 rfl) ?_
                                refine t_getr (tq := 40) C h t_46 ha_46 (by decide) wf_10 rfl fl_X10_47 dX10_hankel_98 (fun qab46_3 tqab46_3 => ?_)
                                obtain ⟨_, rab46_4⟩ := t_rec t_46 tqab46_3 (by decide) wf_40
                                refine k_i (r_V C h hl (As := []) (rest := []) (s_X4_determinant l D G b0 τfa_41 f_46 t_46 qab46_3 tqab46_3) rab46_4 (Cn := RX4) (T := TX4) (N := 4) rfl rfl mk_X4_determinant w_827 w_828 w_829 w_830 ⟨Nat.le_of_ble_eq_true rfl, Nat.le_of_ble_eq_true rfl⟩ rfl (Nat.le_of_ble_eq_true rfl) ⟨Nat.le_of_ble_eq_true rfl, Nat.le_of_ble_eq_true rfl⟩ rfl dX10_hankel_101) h (fun rab46_5 fab46_6 H locs pab46_7 h => ?_)
                                obtain ⟨irab46_5, tfab46_6, ogfab46_6⟩ := pab46_7
                                have ofab46_6 : Fr [0, 1, 3, 20, 21, 22, 23, 24, 25, 40, 41, 42, 1004, 20001, 20002, 20007, 20008, 20009, 20010, 20011, 22001, 22002, 22003, 22004, 23001, 23002, 23003, 23004, 40002, 40003, 40004] τfa_41 fa_41 fab46_6 := Fr.tr o_46 ogfab46_6 (by decide) (by decide)
                                have kab46_8 := atp.fr k46_u0_2 ogfab46_6 ha_46 (by decide)
                                have kab46_9 := GJ.fr k46_gq_GJ ogfab46_6 ha_48 (by decide)
                                have kab46_10 := atp.fr k46_qa_7_3 ogfab46_6 ha_47 (by decide)
                                exact u_iret C h hr hQ (⟨τfa_41, xfa_41, irab46_5, tfab46_6, (Fr.tr Ofa_41 (Fr.cv xfa_41 ofab46_6 (by decide) (fun _ h_ => h_)) (fun _ h_ => h_) (fun _ h_ => h_)), kab46_9⟩) (Nat.le_of_ble_eq_true rfl) (Nat.le_of_ble_eq_true rfl) dX10_hankel_104
                              · have cab46_2 : v46_5.toInt < u3.toInt := Int32.lt_iff_toInt_lt.mp (iv_nle cab46_1)
                                have iab46_3 : iv v46_5 1 7 := iv_Ll cab46_2 iv46_5 jv46_3 (by decide)
                                have iab46_4 : iv u3 2 8 := iv_Lr cab46_2 iv46_5 jv46_3 (by decide)
                                refine lv_iconst (v := 0) hx hb dX10_hankel_52 (by decide) ?_
                                refine lv_istore (lv' := [(6, .int 0), (0, .ref u0), (2, .int u2), (3, .int u3), (4, .ref qa_7), (5, .int v46_5)]) hx hb dX10_hankel_53 hl (by decide) rfl (fun ls hl => ?_)
                                have L55 : ∀ (n55 : Nat) (ls : Array Slot) (f_55 : hM) (H : Heap) (locs : List Loc) (v55_6 : Int32) (g55_qa_7_3 : Nat), 8 - v55_6.toInt < (n55 : Int) → lv_has ls 7 [(0, .ref u0), (2, .int u2), (3, .int u3), (4, .ref qa_7), (5, .int v46_5), (6, .int v55_6)] → hw D b0 s.heap f_55 H locs → TI G 9 τfa_41 f_55 → Fr [0, 1, 3, 20, 21, 22, 23, 24, 25, 40, 41, 42, 1004, 20001, 20002, 20007, 20008, 20009, 20010, 20011, 22001, 22002, 22003, 22004, 23001, 23002, 23003, 23004, 40002, 40003, 40004] τfa_41 fa_41 f_55 → iv u2 0 4 → iv u3 2 8 → iv v46_5 1 7 → iv v55_6 0 8 → τfa_41 g55_qa_7_3 = 3 → atp f_55 u0 (fd 2 (.ref gq)) → GJ τfa_41 f_55 gq rq mq → atp f_55 qa_7 (fd 3 (.ref g55_qa_7_3)) → W p l e rm_s_X10_hankel s m args below meth c H locs 1 305 Q (F0 m 55 ls []) := by
                                  intro n55
                                  induction n55 with
                                  | zero => intro ls f_55 H locs v55_6 g55_qa_7_3 hm55 hl h t_55 o_55 jv55_2 jv55_3 jv55_5 iv55_6 tg55_qa_7_3 k55_u0_2 k55_gq_GJ k55_qa_7_3; exact absurd hm55 (by omega)
                                  | succ n55 ih55 =>
                                    intro ls f_55 H locs v55_6 g55_qa_7_3 hm55 hl h t_55 o_55 jv55_2 jv55_3 jv55_5 iv55_6 tg55_qa_7_3 k55_u0_2 k55_gq_GJ k55_qa_7_3
                                    refine lv_iload hx hb dX10_hankel_55 (lv_at hl 5 rfl) ?_
                                    refine lv_iload_n hx hb dX10_hankel_57 rfl (lv_at hl 2 rfl) ?_
                                    refine lv_icmp_ge (tgt := 91) hx hb dX10_hankel_58 (by decide) (fun cab46b55_1 => ?_) (fun cab46b55_1 => ?_)
                                    · have cab46b55_2 : u3.toInt ≤ v55_6.toInt := Int32.le_iff_toInt_le.mp cab46b55_1
                                      have iab46b55_3 : iv v55_6 2 8 := iv_Er cab46b55_2 jv55_3 iv55_6 (by decide)
                                      refine i_inc hx hb dX10_hankel_91 hl (k := 4) rfl jv55_5 rfl (lo := 2) (hi := 8) (by decide) (by decide) (lv' := fun v => [(5, .int v), (0, .ref u0), (2, .int u2), (3, .int u3), (4, .ref qa_7), (6, .int v55_6)]) (fun _ => rfl) (fun zab46b55_4 ls ezab46b55_4 mzab46b55_4 izab46b55_4 hl => ?_)
                                      refine lv_goto (tgt := 46) hx hb dX10_hankel_94 (by decide) ?_
                                      exact ih46 ls f_55 H locs zab46b55_4 g55_qa_7_3 (show 8 - zab46b55_4.toInt < _ by omega) (lv_cons hl 1 rfl (lv_cons hl 2 rfl (lv_cons hl 3 rfl (lv_cons hl 4 rfl (lv_cons hl 0 rfl (lv_nil hl)))))) h t_55 o_55 jv55_2 (iv_w jv55_3 (by decide)) (iv_w izab46b55_4 (by decide)) tg55_qa_7_3 k55_u0_2 k55_gq_GJ k55_qa_7_3
                                    · have cab46b55_2 : v55_6.toInt < u3.toInt := Int32.lt_iff_toInt_lt.mp (iv_nle cab46b55_1)
                                      have iab46b55_3 : iv v55_6 0 7 := iv_Ll cab46b55_2 iv55_6 jv55_3 (by decide)
                                      refine lv_aload_n hx hb dX10_hankel_61 rfl (lv_at hl 0 rfl) ?_
                                      refine t_getr (tq := 40) C h t_55 ha_46 (by decide) wf_10 rfl fl_X10_47 dX10_hankel_62 (fun qab46b55_4 tqab46b55_4 => ?_)
                                      refine lv_iload hx hb dX10_hankel_65 (lv_at hl 4 rfl) ?_
                                      refine lv_iload hx hb dX10_hankel_67 (lv_at hl 5 rfl) ?_
                                      refine lv_aload_n hx hb dX10_hankel_69 rfl (lv_at hl 0 rfl) ?_
                                      refine lv_aload hx hb dX10_hankel_70 (lv_at hl 3 rfl) ?_
                                      refine lv_iload_n hx hb dX10_hankel_72 rfl (lv_at hl 1 rfl) ?_
                                      refine lv_iload hx hb dX10_hankel_73 (lv_at hl 4 rfl) ?_
                                      refine lv_iload hx hb dX10_hankel_75 (lv_at hl 5 rfl) ?_
                                      refine i_add hx hb dX10_hankel_77 jv55_5 iab46b55_3 (lo := 1) (hi := 14) (by decide) (fun zab46b55_5 ezab46b55_5 mzab46b55_5 izab46b55_5 => ?_)
                                      obtain ⟨_, rab46b55_6⟩ := t_rec t_55 ha_46 (by decide) wf_10
                                      refine k_i (r_V C h hl (As := [.ref qa_7, .int u2, .int zab46b55_5]) (rest := [.int v55_6, .int v46_5, .ref qab46b55_4]) (s_X10_termB l D G b0 τfa_41 f_55 t_55 u0 ha_46 qa_7 ha_47 u2 jv55_2 zab46b55_5 (iv_w izab46b55_5 (by decide)) g55_qa_7_3 tg55_qa_7_3 k55_qa_7_3) rab46b55_6 (Cn := RX10) (T := TX10) (N := 10) rfl rfl mk_X10_term w_724 w_726 w_17 w_727 ⟨Nat.le_of_ble_eq_true rfl, Nat.le_of_ble_eq_true rfl⟩ rfl (Nat.le_of_ble_eq_true rfl) ⟨Nat.le_of_ble_eq_true rfl, Nat.le_of_ble_eq_true rfl⟩ rfl dX10_hankel_78) h (fun rab46b55_7 fab46b55_8 H locs pab46b55_9 h => ?_)
                                      obtain ⟨irab46b55_7, tfab46b55_8, ogfab46b55_8, ⟨ztfab46b55_8, ttfab46b55_8, ktfab46b55_8⟩⟩ := pab46b55_9
                                      have egfab46b55_8 := Fr.nil2 ogfab46b55_8
                                      subst egfab46b55_8
                                      refine lv_i2l hx hb dX10_hankel_81 rfl (i_topL irab46b55_7 (fun wab46b55_10 ewab46b55_10 mwab46b55_10 iwab46b55_10 => ?_))
                                      obtain ⟨_, rab46b55_11⟩ := t_rec t_55 tqab46b55_4 (by decide) wf_40
                                      refine k_v (r_V C h hl (As := [.int v46_5, .int v55_6, .long wab46b55_10]) (rest := []) (s_X4_put l D G b0 τfa_41 f_55 t_55 qab46b55_4 tqab46b55_4 v46_5 (iv_w jv55_5 (by decide)) v55_6 (iv_w iab46b55_3 (by decide)) wab46b55_10) rab46b55_11 (Cn := RX4) (T := TX4) (N := 4) rfl rfl mk_X4_put w_792 w_793 w_794 w_795 ⟨Nat.le_of_ble_eq_true rfl, Nat.le_of_ble_eq_true rfl⟩ rfl (Nat.le_of_ble_eq_true rfl) ⟨Nat.le_of_ble_eq_true rfl, Nat.le_of_ble_eq_true rfl⟩ rfl dX10_hankel_82) h (fun fab46b55_13 H locs pab46b55_14 h => ?_)
                                      obtain ⟨tfab46b55_13, ogfab46b55_13⟩ := pab46b55_14
                                      have ofab46b55_13 : Fr [0, 1, 3, 20, 21, 22, 23, 24, 25, 40, 41, 42, 1004, 20001, 20002, 20007, 20008, 20009, 20010, 20011, 22001, 22002, 22003, 22004, 23001, 23002, 23003, 23004, 40002, 40003, 40004] τfa_41 fa_41 fab46b55_13 := Fr.tr o_55 ogfab46b55_13 (by decide) (by decide)
                                      have kab46b55_15 := atp.fr k55_u0_2 ogfab46b55_13 ha_46 (by decide)
                                      have kab46b55_16 := GJ.fr k55_gq_GJ ogfab46b55_13 ha_48 (by decide)
                                      have kab46b55_17 := atp.fr ktfab46b55_8 ogfab46b55_13 ha_47 (by decide)
                                      refine i_inc hx hb dX10_hankel_85 hl (k := 5) rfl iab46b55_3 rfl (lo := 1) (hi := 8) (by decide) (by decide) (lv' := fun v => [(6, .int v), (0, .ref u0), (2, .int u2), (3, .int u3), (4, .ref qa_7), (5, .int v46_5)]) (fun _ => rfl) (fun zab46b55_18 ls ezab46b55_18 mzab46b55_18 izab46b55_18 hl => ?_)
                                      refine lv_goto (tgt := 55) hx hb dX10_hankel_88 (by decide) ?_
                                      exact ih55 ls fab46b55_13 H locs zab46b55_18 ztfab46b55_8 (show 8 - zab46b55_18.toInt < _ by omega) (lv_cons hl 1 rfl (lv_cons hl 2 rfl (lv_cons hl 3 rfl (lv_cons hl 4 rfl (lv_cons hl 5 rfl (lv_cons hl 0 rfl (lv_nil hl))))))) h tfab46b55_13 ofab46b55_13 jv55_2 jv55_3 jv55_5 (iv_w izab46b55_18 (by decide)) ttfab46b55_8 kab46b55_15 kab46b55_16 kab46b55_17
                                exact L55 9 ls f_46 H locs 0 g46_qa_7_3 (by decide) (lv_cons hl 1 rfl (lv_cons hl 2 rfl (lv_cons hl 3 rfl (lv_cons hl 4 rfl (lv_cons hl 5 rfl (lv_cons hl 0 rfl (lv_nil hl))))))) h t_46 o_46 jv46_2 iab46_4 iab46_3 ⟨by decide, by decide⟩ tg46_qa_7_3 k46_u0_2 k46_gq_GJ k46_qa_7_3
                          exact L46 8 ls fa_148 H locs 1 ztfa_143 (by decide) (lv_cons hl 3 rfl (lv_cons hl 5 rfl (lv_cons hl 6 rfl (lv_cons hl 2 rfl (lv_cons hl 0 rfl (lv_nil hl)))))) h tfa_148 ofa_148 ia_15 (iv_w ia_155 (by decide)) ⟨by decide, by decide⟩ ttfa_143 ka_150 ka_151 ka_152
                        · have ca_154 : 7 < u3.toInt := Int32.lt_iff_toInt_lt.mp (iv_nle ca_153)
                          have ia_155 : iv u3 8 8 := iv_Lr ca_154 (iv_k (x := 7) (k := 7) rfl) ia_139 (by decide)
                          refine lv_aload_n hx hb dX10_hankel_61 rfl (lv_at hl 3 rfl) ?_
                          refine t_getr (tq := 40) C h tfa_148 ha_46 (by decide) wf_10 rfl fl_X10_47 dX10_hankel_62 (fun qa_156 tqa_156 => ?_)
                          refine lv_iload hx hb dX10_hankel_65 (lv_at hl 1 rfl) ?_
                          refine lv_iload hx hb dX10_hankel_67 (lv_at hl 0 rfl) ?_
                          refine lv_aload_n hx hb dX10_hankel_69 rfl (lv_at hl 3 rfl) ?_
                          refine lv_aload hx hb dX10_hankel_70 (lv_at hl 2 rfl) ?_
                          refine lv_iload_n hx hb dX10_hankel_72 rfl (lv_at hl 5 rfl) ?_
                          refine lv_iload hx hb dX10_hankel_73 (lv_at hl 1 rfl) ?_
                          refine lv_iload hx hb dX10_hankel_75 (lv_at hl 0 rfl) ?_
                          refine lv_iadd hx hb dX10_hankel_77 (lv_topi (fun x_ e_ => ?_))
                          obtain rfl : 7 = x_ := by rw [e_]; decide
                          obtain ⟨_, ra_157⟩ := t_rec tfa_148 ha_46 (by decide) wf_10
                          refine k_i (r_V C h hl (As := [.ref qa_7, .int u2, .int 7]) (rest := [.int 7, .int 0, .ref qa_156]) (s_X10_termB l D G b0 τfa_41 fa_148 tfa_148 u0 ha_46 qa_7 ha_47 u2 ia_15 7 (iv_w (iv_k (x := 7) (k := 7) rfl) (by decide)) ztfa_143 ttfa_143 ka_152) ra_157 (Cn := RX10) (T := TX10) (N := 10) rfl rfl mk_X10_term w_724 w_726 w_17 w_727 ⟨Nat.le_of_ble_eq_true rfl, Nat.le_of_ble_eq_true rfl⟩ rfl (Nat.le_of_ble_eq_true rfl) ⟨Nat.le_of_ble_eq_true rfl, Nat.le_of_ble_eq_true rfl⟩ rfl dX10_hankel_78) h (fun ra_158 fa_159 H locs pa_160 h => ?_)
                          obtain ⟨ira_158, tfa_159, ogfa_159, ⟨ztfa_159, ttfa_159, ktfa_159⟩⟩ := pa_160
                          have egfa_159 := Fr.nil2 ogfa_159
                          subst egfa_159
                          refine lv_i2l hx hb dX10_hankel_81 rfl (i_topL ira_158 (fun wa_161 ewa_161 mwa_161 iwa_161 => ?_))
                          obtain ⟨_, ra_162⟩ := t_rec tfa_148 tqa_156 (by decide) wf_40
                          refine k_v (r_V C h hl (As := [.int 0, .int 7, .long wa_161]) (rest := []) (s_X4_put l D G b0 τfa_41 fa_148 tfa_148 qa_156 tqa_156 0 (iv_w (iv_k (x := 0) (k := 0) rfl) (by decide)) 7 (iv_w (iv_k (x := 7) (k := 7) rfl) (by decide)) wa_161) ra_162 (Cn := RX4) (T := TX4) (N := 4) rfl rfl mk_X4_put w_792 w_793 w_794 w_795 ⟨Nat.le_of_ble_eq_true rfl, Nat.le_of_ble_eq_true rfl⟩ rfl (Nat.le_of_ble_eq_true rfl) ⟨Nat.le_of_ble_eq_true rfl, Nat.le_of_ble_eq_true rfl⟩ rfl dX10_hankel_82) h (fun fa_164 H locs pa_165 h => ?_)
                          obtain ⟨tfa_164, ogfa_164⟩ := pa_165
                          have ofa_164 : Fr [0, 1, 3, 20, 21, 22, 23, 24, 25, 40, 41, 42, 1004, 20001, 20002, 20007, 20008, 20009, 20010, 20011, 22001, 22002, 22003, 22004, 23001, 23002, 23003, 23004, 40002, 40003, 40004] τfa_41 fa_41 fa_164 := Fr.tr ofa_148 ogfa_164 (by decide) (by decide)
                          have ka_166 := atp.fr ka_150 ogfa_164 ha_46 (by decide)
                          have ka_167 := GJ.fr ka_151 ogfa_164 ha_48 (by decide)
                          have ka_168 := atp.fr ktfa_159 ogfa_164 ha_47 (by decide)
                          refine lv_iinc (v := 8) (lv' := [(6, .int 8), (5, .int 0), (4, .ref qa_7), (0, .ref u0), (1, .int u1), (2, .int u2), (3, .int u3)]) hx hb dX10_hankel_85 hl (k := 0) rfl (by decide) (by decide) rfl (fun ls hl => ?_)
                          refine lv_goto (tgt := 55) hx hb dX10_hankel_88 (by decide) ?_
                          refine lv_iload hx hb dX10_hankel_55 (lv_at hl 0 rfl) ?_
                          refine lv_iload_n hx hb dX10_hankel_57 rfl (lv_at hl 6 rfl) ?_
                          refine lv_icmp_ge (tgt := 91) hx hb dX10_hankel_58 (by decide) (fun ca_169 => ?_) (fun ca_169 => ?_)
                          · have ca_170 : u3.toInt ≤ 8 := Int32.le_iff_toInt_le.mp ca_169
                            refine lv_iinc (v := 1) (lv' := [(5, .int 1), (6, .int 8), (4, .ref qa_7), (0, .ref u0), (1, .int u1), (2, .int u2), (3, .int u3)]) hx hb dX10_hankel_91 hl (k := 1) rfl (by decide) (by decide) rfl (fun ls hl => ?_)
                            refine lv_goto (tgt := 46) hx hb dX10_hankel_94 (by decide) ?_
                            have L46 : ∀ (n46 : Nat) (ls : Array Slot) (f_46 : hM) (H : Heap) (locs : List Loc) (v46_5 : Int32) (g46_qa_7_3 : Nat), 8 - v46_5.toInt < (n46 : Int) → lv_has ls 7 [(0, .ref u0), (2, .int u2), (3, .int u3), (4, .ref qa_7), (5, .int v46_5)] → hw D b0 s.heap f_46 H locs → TI G 9 τfa_41 f_46 → Fr [0, 1, 3, 20, 21, 22, 23, 24, 25, 40, 41, 42, 1004, 20001, 20002, 20007, 20008, 20009, 20010, 20011, 22001, 22002, 22003, 22004, 23001, 23002, 23003, 23004, 40002, 40003, 40004] τfa_41 fa_41 f_46 → iv u2 0 4 → iv u3 1 8 → iv v46_5 1 8 → τfa_41 g46_qa_7_3 = 3 → atp f_46 u0 (fd 2 (.ref gq)) → GJ τfa_41 f_46 gq rq mq → atp f_46 qa_7 (fd 3 (.ref g46_qa_7_3)) → W p l e rm_s_X10_hankel s m args below meth c H locs 1 305 Q (F0 m 46 ls []) := by
                              intro n46
                              induction n46 with
                              | zero => intro ls f_46 H locs v46_5 g46_qa_7_3 hm46 hl h t_46 o_46 jv46_2 jv46_3 iv46_5 tg46_qa_7_3 k46_u0_2 k46_gq_GJ k46_qa_7_3; exact absurd hm46 (by omega)
                              | succ n46 ih46 =>
                                intro ls f_46 H locs v46_5 g46_qa_7_3 hm46 hl h t_46 o_46 jv46_2 jv46_3 iv46_5 tg46_qa_7_3 k46_u0_2 k46_gq_GJ k46_qa_7_3
                                refine lv_iload hx hb dX10_hankel_46 (lv_at hl 4 rfl) ?_
                                refine lv_iload_n hx hb dX10_hankel_48 rfl (lv_at hl 2 rfl) ?_
                                refine lv_icmp_ge (tgt := 97) hx hb dX10_hankel_49 (by decide) (fun cab46_1 => ?_) (fun cab46_1 => ?_)
                                · have cab46_2 : u3.toInt ≤ v46_5.toInt := Int32.le_iff_toInt_le.mp cab46_1
                                  refine lv_aload_n hx hb dX10_hankel_97 rfl (lv_at hl 0 rfl) ?_
                                  refine t_getr (tq := 40) C h t_46 ha_46 (by decide) wf_10 rfl fl_X10_47 dX10_hankel_98 (fun qab46_3 tqab46_3 => ?_)
                                  obtain ⟨_, rab46_4⟩ := t_rec t_46 tqab46_3 (by decide) wf_40
                                  refine k_i (r_V C h hl (As := []) (rest := []) (s_X4_determinant l D G b0 τfa_41 f_46 t_46 qab46_3 tqab46_3) rab46_4 (Cn := RX4) (T := TX4) (N := 4) rfl rfl mk_X4_determinant w_827 w_828 w_829 w_830 ⟨Nat.le_of_ble_eq_true rfl, Nat.le_of_ble_eq_true rfl⟩ rfl (Nat.le_of_ble_eq_true rfl) ⟨Nat.le_of_ble_eq_true rfl, Nat.le_of_ble_eq_true rfl⟩ rfl dX10_hankel_101) h (fun rab46_5 fab46_6 H locs pab46_7 h => ?_)
                                  obtain ⟨irab46_5, tfab46_6, ogfab46_6⟩ := pab46_7
                                  have ofab46_6 : Fr [0, 1, 3, 20, 21, 22, 23, 24, 25, 40, 41, 42, 1004, 20001, 20002, 20007, 20008, 20009, 20010, 20011, 22001, 22002, 22003, 22004, 23001, 23002, 23003, 23004, 40002, 40003, 40004] τfa_41 fa_41 fab46_6 := Fr.tr o_46 ogfab46_6 (by decide) (by decide)
                                  have kab46_8 := atp.fr k46_u0_2 ogfab46_6 ha_46 (by decide)
                                  have kab46_9 := GJ.fr k46_gq_GJ ogfab46_6 ha_48 (by decide)
                                  have kab46_10 := atp.fr k46_qa_7_3 ogfab46_6 ha_47 (by decide)
                                  exact u_iret C h hr hQ (⟨τfa_41, xfa_41, irab46_5, tfab46_6, (Fr.tr Ofa_41 (Fr.cv xfa_41 ofab46_6 (by decide) (fun _ h_ => h_)) (fun _ h_ => h_) (fun _ h_ => h_)), kab46_9⟩) (Nat.le_of_ble_eq_true rfl) (Nat.le_of_ble_eq_true rfl) dX10_hankel_104
                                · have cab46_2 : v46_5.toInt < u3.toInt := Int32.lt_iff_toInt_lt.mp (iv_nle cab46_1)
                                  have iab46_3 : iv v46_5 1 7 := iv_Ll cab46_2 iv46_5 jv46_3 (by decide)
                                  have iab46_4 : iv u3 2 8 := iv_Lr cab46_2 iv46_5 jv46_3 (by decide)
                                  refine lv_iconst (v := 0) hx hb dX10_hankel_52 (by decide) ?_
                                  refine lv_istore (lv' := [(6, .int 0), (0, .ref u0), (2, .int u2), (3, .int u3), (4, .ref qa_7), (5, .int v46_5)]) hx hb dX10_hankel_53 hl (by decide) rfl (fun ls hl => ?_)
                                  have L55 : ∀ (n55 : Nat) (ls : Array Slot) (f_55 : hM) (H : Heap) (locs : List Loc) (v55_6 : Int32) (g55_qa_7_3 : Nat), 8 - v55_6.toInt < (n55 : Int) → lv_has ls 7 [(0, .ref u0), (2, .int u2), (3, .int u3), (4, .ref qa_7), (5, .int v46_5), (6, .int v55_6)] → hw D b0 s.heap f_55 H locs → TI G 9 τfa_41 f_55 → Fr [0, 1, 3, 20, 21, 22, 23, 24, 25, 40, 41, 42, 1004, 20001, 20002, 20007, 20008, 20009, 20010, 20011, 22001, 22002, 22003, 22004, 23001, 23002, 23003, 23004, 40002, 40003, 40004] τfa_41 fa_41 f_55 → iv u2 0 4 → iv u3 2 8 → iv v46_5 1 7 → iv v55_6 0 8 → τfa_41 g55_qa_7_3 = 3 → atp f_55 u0 (fd 2 (.ref gq)) → GJ τfa_41 f_55 gq rq mq → atp f_55 qa_7 (fd 3 (.ref g55_qa_7_3)) → W p l e rm_s_X10_hankel s m args below meth c H locs 1 305 Q (F0 m 55 ls []) := by
                                    intro n55
                                    induction n55 with
                                    | zero => intro ls f_55 H locs v55_6 g55_qa_7_3 hm55 hl h t_55 o_55 jv55_2 jv55_3 jv55_5 iv55_6 tg55_qa_7_3 k55_u0_2 k55_gq_GJ k55_qa_7_3; exact absurd hm55 (by omega)
                                    | succ n55 ih55 =>
                                      intro ls f_55 H locs v55_6 g55_qa_7_3 hm55 hl h t_55 o_55 jv55_2 jv55_3 jv55_5 iv55_6 tg55_qa_7_3 k55_u0_2 k55_gq_GJ k55_qa_7_3
                                      refine lv_iload hx hb dX10_hankel_55 (lv_at hl 5 rfl) ?_
                                      refine lv_iload_n hx hb dX10_hankel_57 rfl (lv_at hl 2 rfl) ?_
                                      refine lv_icmp_ge (tgt := 91) hx hb dX10_hankel_58 (by decide) (fun cab46b55_1 => ?_) (fun cab46b55_1 => ?_)
                                      · have cab46b55_2 : u3.toInt ≤ v55_6.toInt := Int32.le_iff_toInt_le.mp cab46b55_1
                                        have iab46b55_3 : iv v55_6 2 8 := iv_Er cab46b55_2 jv55_3 iv55_6 (by decide)
                                        refine i_inc hx hb dX10_hankel_91 hl (k := 4) rfl jv55_5 rfl (lo := 2) (hi := 8) (by decide) (by decide) (lv' := fun v => [(5, .int v), (0, .ref u0), (2, .int u2), (3, .int u3), (4, .ref qa_7), (6, .int v55_6)]) (fun _ => rfl) (fun zab46b55_4 ls ezab46b55_4 mzab46b55_4 izab46b55_4 hl => ?_)
                                        refine lv_goto (tgt := 46) hx hb dX10_hankel_94 (by decide) ?_
                                        exact ih46 ls f_55 H locs zab46b55_4 g55_qa_7_3 (show 8 - zab46b55_4.toInt < _ by omega) (lv_cons hl 1 rfl (lv_cons hl 2 rfl (lv_cons hl 3 rfl (lv_cons hl 4 rfl (lv_cons hl 0 rfl (lv_nil hl)))))) h t_55 o_55 jv55_2 (iv_w jv55_3 (by decide)) (iv_w izab46b55_4 (by decide)) tg55_qa_7_3 k55_u0_2 k55_gq_GJ k55_qa_7_3
                                      · have cab46b55_2 : v55_6.toInt < u3.toInt := Int32.lt_iff_toInt_lt.mp (iv_nle cab46b55_1)
                                        have iab46b55_3 : iv v55_6 0 7 := iv_Ll cab46b55_2 iv55_6 jv55_3 (by decide)
                                        refine lv_aload_n hx hb dX10_hankel_61 rfl (lv_at hl 0 rfl) ?_
                                        refine t_getr (tq := 40) C h t_55 ha_46 (by decide) wf_10 rfl fl_X10_47 dX10_hankel_62 (fun qab46b55_4 tqab46b55_4 => ?_)
                                        refine lv_iload hx hb dX10_hankel_65 (lv_at hl 4 rfl) ?_
                                        refine lv_iload hx hb dX10_hankel_67 (lv_at hl 5 rfl) ?_
                                        refine lv_aload_n hx hb dX10_hankel_69 rfl (lv_at hl 0 rfl) ?_
                                        refine lv_aload hx hb dX10_hankel_70 (lv_at hl 3 rfl) ?_
                                        refine lv_iload_n hx hb dX10_hankel_72 rfl (lv_at hl 1 rfl) ?_
                                        refine lv_iload hx hb dX10_hankel_73 (lv_at hl 4 rfl) ?_
                                        refine lv_iload hx hb dX10_hankel_75 (lv_at hl 5 rfl) ?_
                                        refine i_add hx hb dX10_hankel_77 jv55_5 iab46b55_3 (lo := 1) (hi := 14) (by decide) (fun zab46b55_5 ezab46b55_5 mzab46b55_5 izab46b55_5 => ?_)
                                        obtain ⟨_, rab46b55_6⟩ := t_rec t_55 ha_46 (by decide) wf_10
                                        refine k_i (r_V C h hl (As := [.ref qa_7, .int u2, .int zab46b55_5]) (rest := [.int v55_6, .int v46_5, .ref qab46b55_4]) (s_X10_termB l D G b0 τfa_41 f_55 t_55 u0 ha_46 qa_7 ha_47 u2 jv55_2 zab46b55_5 (iv_w izab46b55_5 (by decide)) g55_qa_7_3 tg55_qa_7_3 k55_qa_7_3) rab46b55_6 (Cn := RX10) (T := TX10) (N := 10) rfl rfl mk_X10_term w_724 w_726 w_17 w_727 ⟨Nat.le_of_ble_eq_true rfl, Nat.le_of_ble_eq_true rfl⟩ rfl (Nat.le_of_ble_eq_true rfl) ⟨Nat.le_of_ble_eq_true rfl, Nat.le_of_ble_eq_true rfl⟩ rfl dX10_hankel_78) h (fun rab46b55_7 fab46b55_8 H locs pab46b55_9 h => ?_)
                                        obtain ⟨irab46b55_7, tfab46b55_8, ogfab46b55_8, ⟨ztfab46b55_8, ttfab46b55_8, ktfab46b55_8⟩⟩ := pab46b55_9
                                        have egfab46b55_8 := Fr.nil2 ogfab46b55_8
                                        subst egfab46b55_8
                                        refine lv_i2l hx hb dX10_hankel_81 rfl (i_topL irab46b55_7 (fun wab46b55_10 ewab46b55_10 mwab46b55_10 iwab46b55_10 => ?_))
                                        obtain ⟨_, rab46b55_11⟩ := t_rec t_55 tqab46b55_4 (by decide) wf_40
                                        refine k_v (r_V C h hl (As := [.int v46_5, .int v55_6, .long wab46b55_10]) (rest := []) (s_X4_put l D G b0 τfa_41 f_55 t_55 qab46b55_4 tqab46b55_4 v46_5 (iv_w jv55_5 (by decide)) v55_6 (iv_w iab46b55_3 (by decide)) wab46b55_10) rab46b55_11 (Cn := RX4) (T := TX4) (N := 4) rfl rfl mk_X4_put w_792 w_793 w_794 w_795 ⟨Nat.le_of_ble_eq_true rfl, Nat.le_of_ble_eq_true rfl⟩ rfl (Nat.le_of_ble_eq_true rfl) ⟨Nat.le_of_ble_eq_true rfl, Nat.le_of_ble_eq_true rfl⟩ rfl dX10_hankel_82) h (fun fab46b55_13 H locs pab46b55_14 h => ?_)
                                        obtain ⟨tfab46b55_13, ogfab46b55_13⟩ := pab46b55_14
                                        have ofab46b55_13 : Fr [0, 1, 3, 20, 21, 22, 23, 24, 25, 40, 41, 42, 1004, 20001, 20002, 20007, 20008, 20009, 20010, 20011, 22001, 22002, 22003, 22004, 23001, 23002, 23003, 23004, 40002, 40003, 40004] τfa_41 fa_41 fab46b55_13 := Fr.tr o_55 ogfab46b55_13 (by decide) (by decide)
                                        have kab46b55_15 := atp.fr k55_u0_2 ogfab46b55_13 ha_46 (by decide)
                                        have kab46b55_16 := GJ.fr k55_gq_GJ ogfab46b55_13 ha_48 (by decide)
                                        have kab46b55_17 := atp.fr ktfab46b55_8 ogfab46b55_13 ha_47 (by decide)
                                        refine i_inc hx hb dX10_hankel_85 hl (k := 5) rfl iab46b55_3 rfl (lo := 1) (hi := 8) (by decide) (by decide) (lv' := fun v => [(6, .int v), (0, .ref u0), (2, .int u2), (3, .int u3), (4, .ref qa_7), (5, .int v46_5)]) (fun _ => rfl) (fun zab46b55_18 ls ezab46b55_18 mzab46b55_18 izab46b55_18 hl => ?_)
                                        refine lv_goto (tgt := 55) hx hb dX10_hankel_88 (by decide) ?_
                                        exact ih55 ls fab46b55_13 H locs zab46b55_18 ztfab46b55_8 (show 8 - zab46b55_18.toInt < _ by omega) (lv_cons hl 1 rfl (lv_cons hl 2 rfl (lv_cons hl 3 rfl (lv_cons hl 4 rfl (lv_cons hl 5 rfl (lv_cons hl 0 rfl (lv_nil hl))))))) h tfab46b55_13 ofab46b55_13 jv55_2 jv55_3 jv55_5 (iv_w izab46b55_18 (by decide)) ttfab46b55_8 kab46b55_15 kab46b55_16 kab46b55_17
                                  exact L55 9 ls f_46 H locs 0 g46_qa_7_3 (by decide) (lv_cons hl 1 rfl (lv_cons hl 2 rfl (lv_cons hl 3 rfl (lv_cons hl 4 rfl (lv_cons hl 5 rfl (lv_cons hl 0 rfl (lv_nil hl))))))) h t_46 o_46 jv46_2 iab46_4 iab46_3 ⟨by decide, by decide⟩ tg46_qa_7_3 k46_u0_2 k46_gq_GJ k46_qa_7_3
                            exact L46 8 ls fa_164 H locs 1 ztfa_159 (by decide) (lv_cons hl 3 rfl (lv_cons hl 5 rfl (lv_cons hl 6 rfl (lv_cons hl 2 rfl (lv_cons hl 0 rfl (lv_nil hl)))))) h tfa_164 ofa_164 ia_15 (iv_w ia_155 (by decide)) ⟨by decide, by decide⟩ ttfa_159 ka_166 ka_167 ka_168
                          · have ca_170 : 8 < u3.toInt := Int32.lt_iff_toInt_lt.mp (iv_nle ca_169)
                            exact (iv_cl_ ca_170 (iv_k (x := 8) (k := 8) rfl) ia_155 (by decide)).elim
      · have ca_22 : ra_16.toInt = 0 := congrArg Int32.toInt ca_21
        have ia_23 : iv ra_16 0 0 := iv_Q ca_22 ira_16 (iv_k (x := 0) (k := 0) rfl) (by decide)
        have ia_24 := czra_16 ca_22
        refine lv_iconst (v := -1) hx hb dX10_hankel_32 (by decide) ?_
        exact u_iret C h hr hQ (⟨τ, (Ex.rf τ), ⟨by decide, by decide⟩, t, o, hGJ⟩) (Nat.le_of_ble_eq_true rfl) (Nat.le_of_ble_eq_true rfl) dX10_hankel_33
abbrev rm_s_X10_arches : Room := { frames := 7, cells := 1, slots := 305, locals := 155 }
set_option maxRecDepth 100000 in
set_option maxHeartbeats 4000000 in
theorem s_X10_arches (l : Launch) (D : va_G) (G : Nat → Nat) (b0 : Nat) (τ : Nat → Nat) (f : hM) (t : TI G 9 τ f) (u0 : Nat) (hu0 : τ u0 = 10) (u1 : Int32) (hu1 : iv u1 (-2147483648) 2147483647) (u2 : Int32) (hu2 : iv u2 (-2147483648) 2147483647) (gq rq mq : Nat) (hgq : τ gq = 20) (kq2 : atp f u0 (fd 2 (.ref gq))) (hGJ : GJ τ f gq rq mq) : mI l yX10_arches cX10_arches 8 (.int) rm_s_X10_arches D G b0 f [.ref u0, .int u1, .int u2] (fun r f1 => (∃ τ1, Ex τ τ1 ∧ iv r (-2147483648) 2147483647 ∧ TI G 9 τ1 f1 ∧ Fr [0, 1, 3, 20, 21, 22, 23, 24, 25, 51, 1004, 20001, 20002, 20007, 20008, 20009, 20010, 20011, 22001, 22002, 22003, 22004, 23001, 23002, 23003, 23004] τ f f1 ∧ GJ τ1 f1 gq rq mq)) := by
  refine met2 (own := RX10) (by decide) rfl (Nat.le_of_ble_eq_true rfl) ?_
  intro p e s m args below meth c ls Q hQ C hr hini hl h
  have hl : lv_has ls 8 [(0, .ref u0), (1, .int u1), (2, .int u2)] := hl
  obtain ⟨hx, hb, hml, hown, hts, hE0, hlk⟩ := id C
  have o := Fr.rf [0, 1, 3, 20, 21, 22, 23, 24, 25, 51, 1004, 20001, 20002, 20007, 20008, 20009, 20010, 20011, 22001, 22002, 22003, 22004, 23001, 23002, 23003, 23004] τ f
  refine lv_aload_n hx hb dX10_arches_0 rfl (lv_at hl 0 rfl) ?_
  refine t_getr (tq := 12) C h t hu0 (by decide) wf_10 rfl fl_X10_19 dX10_arches_1 (fun qa_1 tqa_1 => ?_)
  refine lv_iload_n hx hb dX10_arches_4 rfl (lv_at hl 1 rfl) ?_
  obtain ⟨_, ra_2⟩ := t_rec t tqa_1 (by decide) wf_12
  refine k_q (r_V C h hl (As := [.int u1]) (rest := []) (s_X0_findN l D G b0 τ f t qa_1 tqa_1 u1 hu1) ra_2 (Cn := RX0) (T := TX0) (N := 6) rfl rfl mk_X0_find w_594 w_595 w_596 w_597 ⟨Nat.le_of_ble_eq_true rfl, Nat.le_of_ble_eq_true rfl⟩ rfl (Nat.le_of_ble_eq_true rfl) ⟨Nat.le_of_ble_eq_true rfl, Nat.le_of_ble_eq_true rfl⟩ rfl dX10_arches_5) h (fun ra_3 fa_4 H locs pa_5 h => ?_)
  obtain ⟨qra_3, tfa_4, ogfa_4, ocra_3⟩ := pa_5
  have egfa_4 := Fr.nil2 ogfa_4
  subst egfa_4
  have tra_3 := qra_3
  refine lv_astore_nO (lv' := [(3, va_rf ra_3), (0, .ref u0), (1, .int u1), (2, .int u2)]) hx hb dX10_arches_8 rfl hl (by decide) rfl (fun ls hl => ?_)
  refine lv_aload_nO hx hb dX10_arches_9 rfl (lv_at hl 0 rfl) ?_
  rcases va_rfc ra_3 with eqa_7 | ⟨qa_7, eqa_7⟩
  · subst eqa_7
    have hl : lv_has ls 8 [(3, .null), (0, .ref u0), (1, .int u1), (2, .int u2)] := hl
    show W _ _ _ _ _ _ _ _ _ _ _ _ _ _ _ (F0 m 10 ls [.null])
    refine lv_ifnullN (tgt := 23) hx hb dX10_arches_10 (by decide) ?_
    refine lv_iconst (v := -1) hx hb dX10_arches_23 (by decide) ?_
    exact u_iret C h hr hQ (⟨τ, (Ex.rf τ), ⟨by decide, by decide⟩, t, o, hGJ⟩) (Nat.le_of_ble_eq_true rfl) (Nat.le_of_ble_eq_true rfl) dX10_arches_24
  · subst eqa_7
    have tqa_7 : τ qa_7 = 1 := tra_3 _ rfl
    have ia_8 : iv u1 0 7 := ocra_3 _ rfl
    have hl : lv_has ls 8 [(3, .ref qa_7), (0, .ref u0), (1, .int u1), (2, .int u2)] := hl
    show W _ _ _ _ _ _ _ _ _ _ _ _ _ _ _ (F0 m 10 ls [.ref qa_7])
    refine lv_ifnull hx hb dX10_arches_10 ?_
    refine lv_iload_n hx hb dX10_arches_13 rfl (lv_at hl 3 rfl) ?_
    refine lv_iconst (v := 1) hx hb dX10_arches_14 (by decide) ?_
    refine lv_bipush (v := 60) hx hb dX10_arches_15 (by decide) ?_
    refine k_i (r_S C h hl (As := [.int u2, .int 1, .int 60]) (rest := []) (s_X10_within l D G b0 τ f t u2 hu2 1 (iv_w (iv_k (x := 1) (k := 1) rfl) (by decide)) 60 (iv_w (iv_k (x := 60) (k := 60) rfl) (by decide))) mk_X10_within w_425 w_426 w_427 ⟨Nat.le_of_ble_eq_true rfl, Nat.le_of_ble_eq_true rfl⟩ rfl (Nat.le_of_ble_eq_true rfl) ⟨Nat.le_of_ble_eq_true rfl, Nat.le_of_ble_eq_true rfl⟩ rfl dX10_arches_17) h (fun ra_9 fa_10 H locs pa_11 h => ?_)
    have na_12 : (1 : Int32).toInt = 1 := rfl
    have na_13 : (60 : Int32).toInt = 60 := rfl
    obtain ⟨ira_9, tfa_10, ogfa_10, cnra_9, czra_9⟩ := pa_11
    have egfa_10 := Fr.nil2 ogfa_10
    subst egfa_10
    refine lv_if_ne (tgt := 25) hx hb dX10_arches_20 (by decide) (fun ca_14 => ?_) (fun ca_14 => ?_)
    · have ca_15 : ra_9.toInt ≠ 0 := fun z_ => ca_14 (Int32.toInt_inj.mp z_)
      have ia_16 : iv ra_9 1 1 := iv_Nl ca_15 ira_9 (by decide)
      obtain ⟨ia_17, ia_18⟩ := cnra_9 ca_15
      have ia_19 : iv u2 1 60 := ⟨by omega, by omega⟩
      refine lv_iconst (v := 1) hx hb dX10_arches_25 (by decide) ?_
      refine lv_istore (lv' := [(4, .int 1), (3, .ref qa_7), (0, .ref u0), (1, .int u1), (2, .int u2)]) hx hb dX10_arches_26 hl (by decide) rfl (fun ls hl => ?_)
      refine lv_iload hx hb dX10_arches_28 (lv_at hl 0 rfl) ?_
      refine lv_iload_n hx hb dX10_arches_30 rfl (lv_at hl 4 rfl) ?_
      refine lv_icmp_gt (tgt := 110) hx hb dX10_arches_31 (by decide) (fun ca_20 => ?_) (fun ca_20 => ?_)
      · have ca_21 : u2.toInt < 1 := Int32.lt_iff_toInt_lt.mp ca_20
        exact (iv_cl_ ca_21 ia_19 (iv_k (x := 1) (k := 1) rfl) (by decide)).elim
      · have ca_21 : 1 ≤ u2.toInt := Int32.le_iff_toInt_le.mp (iv_nlt ca_20)
        refine lv_lconst (v := 0) hx hb dX10_arches_34 (by decide) ?_
        refine lv_lstore (lv' := [(5, .long 0), (4, .int 1), (3, .ref qa_7), (0, .ref u0), (1, .int u1), (2, .int u2)]) hx hb dX10_arches_35 hl (by decide) rfl (fun ls hl => ?_)
        refine lv_iconst (v := 1) hx hb dX10_arches_37 (by decide) ?_
        refine lv_istore (lv' := [(7, .int 1), (5, .long 0), (4, .int 1), (3, .ref qa_7), (0, .ref u0), (1, .int u1), (2, .int u2)]) hx hb dX10_arches_38 hl (by decide) rfl (fun ls hl => ?_)
        refine lv_iload hx hb dX10_arches_40 (lv_at hl 0 rfl) ?_
        refine lv_iload hx hb dX10_arches_42 (lv_at hl 2 rfl) ?_
        refine lv_icmp_ge (tgt := 81) hx hb dX10_arches_44 (by decide) (fun ca_22 => ?_) (fun ca_22 => ?_)
        · refine lv_aload_n hx hb dX10_arches_81 rfl (lv_at hl 4 rfl) ?_
          refine t_getr (tq := 51) C h t hu0 (by decide) wf_10 rfl fl_X10_64 dX10_arches_82 (fun qa_24 tqa_24 => ?_)
          refine lv_iload hx hb dX10_arches_85 (lv_at hl 2 rfl) ?_
          refine lv_aload_n hx hb dX10_arches_87 rfl (lv_at hl 4 rfl) ?_
          refine lv_aload_n hx hb dX10_arches_88 rfl (lv_at hl 3 rfl) ?_
          refine lv_iconst (v := 1) hx hb dX10_arches_89 (by decide) ?_
          refine lv_iload hx hb dX10_arches_90 (lv_at hl 2 rfl) ?_
          obtain ⟨_, ra_25⟩ := t_rec t hu0 (by decide) wf_10
          refine k_i (r_V C h hl (As := [.ref qa_7, .int 1, .int 1]) (rest := [.int 1, .ref qa_24]) (s_X10_term l D G b0 τ f t u0 hu0 qa_7 tqa_7 1 (iv_w (iv_k (x := 1) (k := 1) rfl) (by decide)) 1 (iv_w (iv_k (x := 1) (k := 1) rfl) (by decide)) gq rq mq hgq kq2 hGJ) ra_25 (Cn := RX10) (T := TX10) (N := 10) rfl rfl mk_X10_term w_724 w_726 w_17 w_727 ⟨Nat.le_of_ble_eq_true rfl, Nat.le_of_ble_eq_true rfl⟩ rfl (Nat.le_of_ble_eq_true rfl) ⟨Nat.le_of_ble_eq_true rfl, Nat.le_of_ble_eq_true rfl⟩ rfl dX10_arches_92) h (fun ra_26 fa_27 H locs pa_28 h => ?_)
          have na_29 : (1 : Int32).toInt = 1 := rfl
          have na_30 : (1 : Int32).toInt = 1 := rfl
          obtain ⟨τfa_27, exfa_27, ira_26, tfa_27, ogfa_27, x0ra_26, ⟨ztfa_27, ttfa_27, ktfa_27⟩, gjfa_27⟩ := pa_28
          have ofa_27 : Fr [0, 1, 3, 20, 21, 22, 23, 24, 25, 51, 1004, 20001, 20002, 20007, 20008, 20009, 20010, 20011, 22001, 22002, 22003, 22004, 23001, 23002, 23003, 23004] τ f fa_27 := Fr.tr o ogfa_27 (by decide) (by decide)
          have ka_31 := atp.fr kq2 ogfa_27 hu0 (by decide)
          have Ofa_27 : Fr [0, 1, 3, 20, 21, 22, 23, 24, 25, 51, 1004, 20001, 20002, 20007, 20008, 20009, 20010, 20011, 22001, 22002, 22003, 22004, 23001, 23002, 23003, 23004] τ f fa_27 := ofa_27
          have xfa_27 : Ex τ τfa_27 := exfa_27
          have ha_32 : τfa_27 qa_24 = 51 := Ex.at exfa_27 tqa_24 (by decide)
          have ha_33 : τfa_27 u0 = 10 := Ex.at exfa_27 hu0 (by decide)
          have ha_34 : τfa_27 qa_7 = 1 := Ex.at exfa_27 tqa_7 (by decide)
          have ha_35 : τfa_27 gq = 20 := Ex.at exfa_27 hgq (by decide)
          have ofa_27z := Fr.rf [0, 1, 3, 20, 21, 22, 23, 24, 25, 51, 1004, 20001, 20002, 20007, 20008, 20009, 20010, 20011, 22001, 22002, 22003, 22004, 23001, 23002, 23003, 23004] τfa_27 fa_27
          refine lv_i2l hx hb dX10_arches_95 rfl (i_topL ira_26 (fun wa_36 ewa_36 mwa_36 iwa_36 => ?_))
          refine lv_lload hx hb dX10_arches_96 (lv_at hl 1 rfl) ?_
          refine lv_lsub hx hb dX10_arches_98 (lv_topl (fun wa_37 ewa_37 => ?_))
          refine k_i (r_S C h hl (As := [.long wa_37]) (rest := [.int 1, .ref qa_24]) (s_X10_residue l D G b0 τfa_27 fa_27 tfa_27 wa_37) mk_X10_residue w_781 w_741 w_742 ⟨Nat.le_of_ble_eq_true rfl, Nat.le_of_ble_eq_true rfl⟩ rfl (Nat.le_of_ble_eq_true rfl) ⟨Nat.le_of_ble_eq_true rfl, Nat.le_of_ble_eq_true rfl⟩ rfl dX10_arches_99) h (fun ra_38 fa_39 H locs pa_40 h => ?_)
          obtain ⟨ira_38, tfa_39, ogfa_39⟩ := pa_40
          have egfa_39 := Fr.nil2 ogfa_39
          subst egfa_39
          refine lv_i2l hx hb dX10_arches_102 rfl (i_topL ira_38 (fun wa_41 ewa_41 mwa_41 iwa_41 => ?_))
          refine t_last C h tfa_27 ofa_27z ha_32 (by decide) (by decide) wf_51 fw_51 (by unfold vp_in; decide) dX10_arches_103 (fun fa_42 H locs h tfa_42 ofa_42 hq => ?_)
          have ka_43 := atp.tg ka_31 hq ha_33 (by decide)
          have ka_44 := GJ.tg gjfa_27 hq ha_35 (by decide)
          have ka_45 := atp.tg ktfa_27 hq ha_34 (by decide)
          refine lv_iinc (v := 2) (lv' := [(4, .int 2), (7, .int 1), (5, .long 0), (3, .ref qa_7), (0, .ref u0), (1, .int u1), (2, .int u2)]) hx hb dX10_arches_104 hl (k := 2) rfl (by decide) (by decide) rfl (fun ls hl => ?_)
          refine lv_goto (tgt := 28) hx hb dX10_arches_107 (by decide) ?_
          have L28 : ∀ (n28 : Nat) (ls : Array Slot) (f_28 : hM) (H : Heap) (locs : List Loc) (v28_4 : Int32) (g28_qa_7_3 : Nat), 61 - v28_4.toInt < (n28 : Int) → lv_has ls 8 [(0, .ref u0), (2, .int u2), (3, .ref qa_7), (4, .int v28_4)] → hw D b0 s.heap f_28 H locs → TI G 9 τfa_27 f_28 → Fr [0, 1, 3, 20, 21, 22, 23, 24, 25, 51, 1004, 20001, 20002, 20007, 20008, 20009, 20010, 20011, 22001, 22002, 22003, 22004, 23001, 23002, 23003, 23004] τfa_27 fa_27 f_28 → iv u2 1 60 → iv v28_4 2 61 → τfa_27 g28_qa_7_3 = 3 → atp f_28 u0 (fd 2 (.ref gq)) → GJ τfa_27 f_28 gq rq mq → atp f_28 qa_7 (fd 3 (.ref g28_qa_7_3)) → W p l e rm_s_X10_arches s m args below meth c H locs 1 305 Q (F0 m 28 ls []) := by
            intro n28
            induction n28 with
            | zero => intro ls f_28 H locs v28_4 g28_qa_7_3 hm28 hl h t_28 o_28 jv28_2 iv28_4 tg28_qa_7_3 k28_u0_2 k28_gq_GJ k28_qa_7_3; exact absurd hm28 (by omega)
            | succ n28 ih28 =>
              intro ls f_28 H locs v28_4 g28_qa_7_3 hm28 hl h t_28 o_28 jv28_2 iv28_4 tg28_qa_7_3 k28_u0_2 k28_gq_GJ k28_qa_7_3
              refine lv_iload hx hb dX10_arches_28 (lv_at hl 3 rfl) ?_
              refine lv_iload_n hx hb dX10_arches_30 rfl (lv_at hl 1 rfl) ?_
              refine lv_icmp_gt (tgt := 110) hx hb dX10_arches_31 (by decide) (fun cab28_1 => ?_) (fun cab28_1 => ?_)
              · have cab28_2 : u2.toInt < v28_4.toInt := Int32.lt_iff_toInt_lt.mp cab28_1
                refine lv_aload_n hx hb dX10_arches_110 rfl (lv_at hl 0 rfl) ?_
                refine t_getr (tq := 51) C h t_28 ha_33 (by decide) wf_10 rfl fl_X10_64 dX10_arches_111 (fun qab28_3 tqab28_3 => ?_)
                refine lv_iload_n hx hb dX10_arches_114 rfl (lv_at hl 1 rfl) ?_
                refine t_lald C h t_28 tqab28_3 (by decide) wf_51 (iv_in jv28_2 (by decide)) dX10_arches_115 (fun wab28_4 => ?_)
                refine lv_l2i hx hb dX10_arches_116 rfl (i_top (iv_any _) (fun zab28_5 ezab28_5 izab28_5 => ?_))
                exact u_iret C h hr hQ (⟨τfa_27, xfa_27, izab28_5, t_28, (Fr.tr Ofa_27 (Fr.cv xfa_27 o_28 (by decide) (fun _ h_ => h_)) (fun _ h_ => h_) (fun _ h_ => h_)), k28_gq_GJ⟩) (Nat.le_of_ble_eq_true rfl) (Nat.le_of_ble_eq_true rfl) dX10_arches_117
              · have cab28_2 : v28_4.toInt ≤ u2.toInt := Int32.le_iff_toInt_le.mp (iv_nlt cab28_1)
                have iab28_3 : iv v28_4 2 60 := iv_El cab28_2 iv28_4 jv28_2 (by decide)
                have iab28_4 : iv u2 2 60 := iv_Er cab28_2 iv28_4 jv28_2 (by decide)
                refine lv_lconst (v := 0) hx hb dX10_arches_34 (by decide) ?_
                refine lv_lstore (lv' := [(5, .long 0), (0, .ref u0), (2, .int u2), (3, .ref qa_7), (4, .int v28_4)]) hx hb dX10_arches_35 hl (by decide) rfl (fun ls hl => ?_)
                refine lv_iconst (v := 1) hx hb dX10_arches_37 (by decide) ?_
                refine lv_istore (lv' := [(7, .int 1), (5, .long 0), (0, .ref u0), (2, .int u2), (3, .ref qa_7), (4, .int v28_4)]) hx hb dX10_arches_38 hl (by decide) rfl (fun ls hl => ?_)
                have L40 : ∀ (n40 : Nat) (ls : Array Slot) (f_40 : hM) (H : Heap) (locs : List Loc) (v40_5 : Int64) (v40_7 : Int32) (g40_qa_7_3 : Nat), 60 - v40_7.toInt < (n40 : Int) → lv_has ls 8 [(0, .ref u0), (2, .int u2), (3, .ref qa_7), (4, .int v28_4), (5, .long v40_5), (7, .int v40_7)] → hw D b0 s.heap f_40 H locs → TI G 9 τfa_27 f_40 → Fr [0, 1, 3, 20, 21, 22, 23, 24, 25, 51, 1004, 20001, 20002, 20007, 20008, 20009, 20010, 20011, 22001, 22002, 22003, 22004, 23001, 23002, 23003, 23004] τfa_27 fa_27 f_40 → iv u2 2 60 → iv v28_4 2 60 → iv v40_7 1 60 → τfa_27 g40_qa_7_3 = 3 → atp f_40 u0 (fd 2 (.ref gq)) → GJ τfa_27 f_40 gq rq mq → atp f_40 qa_7 (fd 3 (.ref g40_qa_7_3)) → W p l e rm_s_X10_arches s m args below meth c H locs 1 305 Q (F0 m 40 ls []) := by
                  intro n40
                  induction n40 with
                  | zero => intro ls f_40 H locs v40_5 v40_7 g40_qa_7_3 hm40 hl h t_40 o_40 jv40_2 jv40_4 iv40_7 tg40_qa_7_3 k40_u0_2 k40_gq_GJ k40_qa_7_3; exact absurd hm40 (by omega)
                  | succ n40 ih40 =>
                    intro ls f_40 H locs v40_5 v40_7 g40_qa_7_3 hm40 hl h t_40 o_40 jv40_2 jv40_4 iv40_7 tg40_qa_7_3 k40_u0_2 k40_gq_GJ k40_qa_7_3
                    refine lv_iload hx hb dX10_arches_40 (lv_at hl 5 rfl) ?_
                    refine lv_iload hx hb dX10_arches_42 (lv_at hl 3 rfl) ?_
                    refine lv_icmp_ge (tgt := 81) hx hb dX10_arches_44 (by decide) (fun cab28b40_1 => ?_) (fun cab28b40_1 => ?_)
                    · have cab28b40_2 : v28_4.toInt ≤ v40_7.toInt := Int32.le_iff_toInt_le.mp cab28b40_1
                      have iab28b40_3 : iv v40_7 2 60 := iv_Er cab28b40_2 jv40_4 iv40_7 (by decide)
                      refine lv_aload_n hx hb dX10_arches_81 rfl (lv_at hl 0 rfl) ?_
                      refine t_getr (tq := 51) C h t_40 ha_33 (by decide) wf_10 rfl fl_X10_64 dX10_arches_82 (fun qab28b40_4 tqab28b40_4 => ?_)
                      refine lv_iload hx hb dX10_arches_85 (lv_at hl 3 rfl) ?_
                      refine lv_aload_n hx hb dX10_arches_87 rfl (lv_at hl 0 rfl) ?_
                      refine lv_aload_n hx hb dX10_arches_88 rfl (lv_at hl 2 rfl) ?_
                      refine lv_iconst (v := 1) hx hb dX10_arches_89 (by decide) ?_
                      refine lv_iload hx hb dX10_arches_90 (lv_at hl 3 rfl) ?_
                      obtain ⟨_, rab28b40_5⟩ := t_rec t_40 ha_33 (by decide) wf_10
                      refine k_i (r_V C h hl (As := [.ref qa_7, .int 1, .int v28_4]) (rest := [.int v28_4, .ref qab28b40_4]) (s_X10_termB l D G b0 τfa_27 f_40 t_40 u0 ha_33 qa_7 ha_34 1 (iv_w (iv_k (x := 1) (k := 1) rfl) (by decide)) v28_4 (iv_w jv40_4 (by decide)) g40_qa_7_3 tg40_qa_7_3 k40_qa_7_3) rab28b40_5 (Cn := RX10) (T := TX10) (N := 10) rfl rfl mk_X10_term w_724 w_726 w_17 w_727 ⟨Nat.le_of_ble_eq_true rfl, Nat.le_of_ble_eq_true rfl⟩ rfl (Nat.le_of_ble_eq_true rfl) ⟨Nat.le_of_ble_eq_true rfl, Nat.le_of_ble_eq_true rfl⟩ rfl dX10_arches_92) h (fun rab28b40_6 fab28b40_7 H locs pab28b40_8 h => ?_)
                      obtain ⟨irab28b40_6, tfab28b40_7, ogfab28b40_7, ⟨ztfab28b40_7, ttfab28b40_7, ktfab28b40_7⟩⟩ := pab28b40_8
                      have egfab28b40_7 := Fr.nil2 ogfab28b40_7
                      subst egfab28b40_7
                      refine lv_i2l hx hb dX10_arches_95 rfl (i_topL irab28b40_6 (fun wab28b40_9 ewab28b40_9 mwab28b40_9 iwab28b40_9 => ?_))
                      refine lv_lload hx hb dX10_arches_96 (lv_at hl 4 rfl) ?_
                      refine lv_lsub hx hb dX10_arches_98 (lv_topl (fun wab28b40_10 ewab28b40_10 => ?_))
                      refine k_i (r_S C h hl (As := [.long wab28b40_10]) (rest := [.int v28_4, .ref qab28b40_4]) (s_X10_residue l D G b0 τfa_27 f_40 t_40 wab28b40_10) mk_X10_residue w_781 w_741 w_742 ⟨Nat.le_of_ble_eq_true rfl, Nat.le_of_ble_eq_true rfl⟩ rfl (Nat.le_of_ble_eq_true rfl) ⟨Nat.le_of_ble_eq_true rfl, Nat.le_of_ble_eq_true rfl⟩ rfl dX10_arches_99) h (fun rab28b40_11 fab28b40_12 H locs pab28b40_13 h => ?_)
                      obtain ⟨irab28b40_11, tfab28b40_12, ogfab28b40_12⟩ := pab28b40_13
                      have egfab28b40_12 := Fr.nil2 ogfab28b40_12
                      subst egfab28b40_12
                      refine lv_i2l hx hb dX10_arches_102 rfl (i_topL irab28b40_11 (fun wab28b40_14 ewab28b40_14 mwab28b40_14 iwab28b40_14 => ?_))
                      refine t_last C h t_40 o_40 tqab28b40_4 (by decide) (by decide) wf_51 fw_51 (iv_in jv40_4 (by decide)) dX10_arches_103 (fun fab28b40_15 H locs h tfab28b40_15 ofab28b40_15 hq => ?_)
                      have kab28b40_16 := atp.tg k40_u0_2 hq ha_33 (by decide)
                      have kab28b40_17 := GJ.tg k40_gq_GJ hq ha_35 (by decide)
                      have kab28b40_18 := atp.tg ktfab28b40_7 hq ha_34 (by decide)
                      refine i_inc hx hb dX10_arches_104 hl (k := 3) rfl jv40_4 rfl (lo := 3) (hi := 61) (by decide) (by decide) (lv' := fun v => [(4, .int v), (0, .ref u0), (2, .int u2), (3, .ref qa_7), (5, .long v40_5), (7, .int v40_7)]) (fun _ => rfl) (fun zab28b40_19 ls ezab28b40_19 mzab28b40_19 izab28b40_19 hl => ?_)
                      refine lv_goto (tgt := 28) hx hb dX10_arches_107 (by decide) ?_
                      exact ih28 ls fab28b40_15 H locs zab28b40_19 ztfab28b40_7 (show 61 - zab28b40_19.toInt < _ by omega) (lv_cons hl 1 rfl (lv_cons hl 2 rfl (lv_cons hl 3 rfl (lv_cons hl 0 rfl (lv_nil hl))))) h tfab28b40_15 ofab28b40_15 (iv_w jv40_2 (by decide)) (iv_w izab28b40_19 (by decide)) ttfab28b40_7 kab28b40_16 kab28b40_17 kab28b40_18
                    · have cab28b40_2 : v40_7.toInt < v28_4.toInt := Int32.lt_iff_toInt_lt.mp (iv_nle cab28b40_1)
                      have iab28b40_3 : iv v40_7 1 59 := iv_Ll cab28b40_2 iv40_7 jv40_4 (by decide)
                      refine lv_lload hx hb dX10_arches_47 (lv_at hl 4 rfl) ?_
                      refine lv_aload_n hx hb dX10_arches_49 rfl (lv_at hl 0 rfl) ?_
                      refine t_getr (tq := 51) C h t_40 ha_33 (by decide) wf_10 rfl fl_X10_64 dX10_arches_50 (fun qab28b40_4 tqab28b40_4 => ?_)
                      refine lv_iload hx hb dX10_arches_53 (lv_at hl 5 rfl) ?_
                      refine t_lald C h t_40 tqab28b40_4 (by decide) wf_51 (iv_in iab28b40_3 (by decide)) dX10_arches_55 (fun wab28b40_5 => ?_)
                      refine lv_aload_n hx hb dX10_arches_56 rfl (lv_at hl 0 rfl) ?_
                      refine lv_aload_n hx hb dX10_arches_57 rfl (lv_at hl 2 rfl) ?_
                      refine lv_iconst (v := 1) hx hb dX10_arches_58 (by decide) ?_
                      refine lv_iload hx hb dX10_arches_59 (lv_at hl 3 rfl) ?_
                      refine lv_iload hx hb dX10_arches_61 (lv_at hl 5 rfl) ?_
                      refine i_sub hx hb dX10_arches_63 jv40_4 iab28b40_3 (lo := (-57)) (hi := 59) (by decide) (fun zab28b40_6 ezab28b40_6 mzab28b40_6 izab28b40_6 => ?_)
                      obtain ⟨_, rab28b40_7⟩ := t_rec t_40 ha_33 (by decide) wf_10
                      refine k_i (r_V C h hl (As := [.ref qa_7, .int 1, .int zab28b40_6]) (rest := [.long wab28b40_5, .long v40_5]) (s_X10_termB l D G b0 τfa_27 f_40 t_40 u0 ha_33 qa_7 ha_34 1 (iv_w (iv_k (x := 1) (k := 1) rfl) (by decide)) zab28b40_6 (show iv zab28b40_6 0 60 from by omega) g40_qa_7_3 tg40_qa_7_3 k40_qa_7_3) rab28b40_7 (Cn := RX10) (T := TX10) (N := 10) rfl rfl mk_X10_term w_724 w_726 w_17 w_727 ⟨Nat.le_of_ble_eq_true rfl, Nat.le_of_ble_eq_true rfl⟩ rfl (Nat.le_of_ble_eq_true rfl) ⟨Nat.le_of_ble_eq_true rfl, Nat.le_of_ble_eq_true rfl⟩ rfl dX10_arches_64) h (fun rab28b40_8 fab28b40_9 H locs pab28b40_10 h => ?_)
                      obtain ⟨irab28b40_8, tfab28b40_9, ogfab28b40_9, ⟨ztfab28b40_9, ttfab28b40_9, ktfab28b40_9⟩⟩ := pab28b40_10
                      have egfab28b40_9 := Fr.nil2 ogfab28b40_9
                      subst egfab28b40_9
                      refine lv_i2l hx hb dX10_arches_67 rfl (i_topL irab28b40_8 (fun wab28b40_11 ewab28b40_11 mwab28b40_11 iwab28b40_11 => ?_))
                      refine k_i (r_S C h hl (As := [.long wab28b40_5, .long wab28b40_11]) (rest := [.long v40_5]) (s_X10_times l D G b0 τfa_27 f_40 t_40 wab28b40_5 wab28b40_11) mk_X10_times w_822 w_807 w_808 ⟨Nat.le_of_ble_eq_true rfl, Nat.le_of_ble_eq_true rfl⟩ rfl (Nat.le_of_ble_eq_true rfl) ⟨Nat.le_of_ble_eq_true rfl, Nat.le_of_ble_eq_true rfl⟩ rfl dX10_arches_68) h (fun rab28b40_12 fab28b40_13 H locs pab28b40_14 h => ?_)
                      obtain ⟨irab28b40_12, tfab28b40_13, ogfab28b40_13⟩ := pab28b40_14
                      have egfab28b40_13 := Fr.nil2 ogfab28b40_13
                      subst egfab28b40_13
                      refine lv_i2l hx hb dX10_arches_71 rfl (i_topL irab28b40_12 (fun wab28b40_15 ewab28b40_15 mwab28b40_15 iwab28b40_15 => ?_))
                      refine lv_ladd hx hb dX10_arches_72 (lv_topl (fun wab28b40_16 ewab28b40_16 => ?_))
                      refine lv_lstore (lv' := [(5, .long wab28b40_16), (0, .ref u0), (2, .int u2), (3, .ref qa_7), (4, .int v28_4), (7, .int v40_7)]) hx hb dX10_arches_73 hl (by decide) rfl (fun ls hl => ?_)
                      refine i_inc hx hb dX10_arches_75 hl (k := 5) rfl iab28b40_3 rfl (lo := 2) (hi := 60) (by decide) (by decide) (lv' := fun v => [(7, .int v), (5, .long wab28b40_16), (0, .ref u0), (2, .int u2), (3, .ref qa_7), (4, .int v28_4)]) (fun _ => rfl) (fun zab28b40_17 ls ezab28b40_17 mzab28b40_17 izab28b40_17 hl => ?_)
                      refine lv_goto (tgt := 40) hx hb dX10_arches_78 (by decide) ?_
                      exact ih40 ls f_40 H locs wab28b40_16 zab28b40_17 ztfab28b40_9 (show 60 - zab28b40_17.toInt < _ by omega) (lv_cons hl 2 rfl (lv_cons hl 3 rfl (lv_cons hl 4 rfl (lv_cons hl 5 rfl (lv_cons hl 1 rfl (lv_cons hl 0 rfl (lv_nil hl))))))) h t_40 o_40 jv40_2 jv40_4 (iv_w izab28b40_17 (by decide)) ttfab28b40_9 k40_u0_2 k40_gq_GJ ktfab28b40_9
                exact L40 60 ls f_28 H locs 0 1 g28_qa_7_3 (by decide) (lv_cons hl 2 rfl (lv_cons hl 3 rfl (lv_cons hl 4 rfl (lv_cons hl 5 rfl (lv_cons hl 1 rfl (lv_cons hl 0 rfl (lv_nil hl))))))) h t_28 o_28 iab28_4 iab28_3 ⟨by decide, by decide⟩ tg28_qa_7_3 k28_u0_2 k28_gq_GJ k28_qa_7_3
          exact L28 60 ls fa_42 H locs 2 ztfa_27 (by decide) (lv_cons hl 4 rfl (lv_cons hl 6 rfl (lv_cons hl 3 rfl (lv_cons hl 0 rfl (lv_nil hl))))) h tfa_42 ofa_42 ia_19 ⟨by decide, by decide⟩ ttfa_27 ka_43 ka_44 ka_45
        · exact absurd ca_22 (by decide)
    · have ca_15 : ra_9.toInt = 0 := congrArg Int32.toInt ca_14
      have ia_16 : iv ra_9 0 0 := iv_Q ca_15 ira_9 (iv_k (x := 0) (k := 0) rfl) (by decide)
      have ia_17 := czra_9 ca_15
      refine lv_iconst (v := -1) hx hb dX10_arches_23 (by decide) ?_
      exact u_iret C h hr hQ (⟨τ, (Ex.rf τ), ⟨by decide, by decide⟩, t, o, hGJ⟩) (Nat.le_of_ble_eq_true rfl) (Nat.le_of_ble_eq_true rfl) dX10_arches_24
abbrev rm_s_X10_readiesa : Room := { frames := 6, cells := 1, slots := 305, locals := 132 }
set_option maxRecDepth 100000 in
set_option maxHeartbeats 4000000 in
theorem s_X10_readiesa (l : Launch) (D : va_G) (G : Nat → Nat) (b0 : Nat) (τ : Nat → Nat) (f : hM) (t : TI G 9 τ f) (u0 : Nat) (hu0 : τ u0 = 10) (u1 : Int32) (hu1 : iv u1 (-2147483648) 2147483647) (u2 : Int32) (hu2 : iv u2 (-2147483648) 2147483647) (u3 : Int32) (hu3 : iv u3 0 0) (u4 : Int32) (hu4 : iv u4 (-2147483648) 2147483647) (u5 : Int32) (hu5 : iv u5 (-2147483648) 2147483647) (gu : Nat) (hgu : τ gu = 45) (k_u0_6 : atp f u0 (fd 6 (.ref gu))) (gq rq mq : Nat) (hgq : τ gq = 20) (kq2 : atp f u0 (fd 2 (.ref gq))) (hGJ : GJ τ f gq rq mq) : mI l yX10_readies cX10_readies 7 (.boolean) rm_s_X10_readiesa D G b0 f [.ref u0, .int u1, .int u2, .int u3, .int u4, .int u5] (fun r f1 => (∃ τ1, Ex τ τ1 ∧ iv r 0 1 ∧ TI G 9 τ1 f1 ∧ Fr [0, 1, 3, 20, 21, 22, 23, 24, 25, 45, 47, 1004, 20001, 20002, 20007, 20008, 20009, 20010, 20011, 22001, 22002, 22003, 22004, 23001, 23002, 23003, 23004, 45004] τ f f1 ∧ (r.toInt ≠ 0 → iv u4 1 4 ∧ iv u5 0 4 ∧ (∃ wz : Int32, atp f1 gu (fd 3 (.int wz)) ∧ iv wz 0 0)) ∧ GJ τ1 f1 gq rq mq)) := by
  refine met2 (own := RX10) (by decide) rfl (Nat.le_of_ble_eq_true rfl) ?_
  intro p e s m args below meth c ls Q hQ C hr hini hl h
  have hl : lv_has ls 7 [(0, .ref u0), (1, .int u1), (2, .int u2), (3, .int u3), (4, .int u4), (5, .int u5)] := hl
  obtain ⟨hx, hb, hml, hown, hts, hE0, hlk⟩ := id C
  have o := Fr.rf [0, 1, 3, 20, 21, 22, 23, 24, 25, 45, 47, 1004, 20001, 20002, 20007, 20008, 20009, 20010, 20011, 22001, 22002, 22003, 22004, 23001, 23002, 23003, 23004, 45004] τ f
  refine lv_aload_n hx hb dX10_readies_0 rfl (lv_at hl 0 rfl) ?_
  refine t_getr (tq := 12) C h t hu0 (by decide) wf_10 rfl fl_X10_19 dX10_readies_1 (fun qa_1 tqa_1 => ?_)
  refine lv_iload_n hx hb dX10_readies_4 rfl (lv_at hl 1 rfl) ?_
  obtain ⟨_, ra_2⟩ := t_rec t tqa_1 (by decide) wf_12
  refine k_q (r_V C h hl (As := [.int u1]) (rest := []) (s_X0_findN l D G b0 τ f t qa_1 tqa_1 u1 hu1) ra_2 (Cn := RX0) (T := TX0) (N := 6) rfl rfl mk_X0_find w_594 w_595 w_596 w_597 ⟨Nat.le_of_ble_eq_true rfl, Nat.le_of_ble_eq_true rfl⟩ rfl (Nat.le_of_ble_eq_true rfl) ⟨Nat.le_of_ble_eq_true rfl, Nat.le_of_ble_eq_true rfl⟩ rfl dX10_readies_5) h (fun ra_3 fa_4 H locs pa_5 h => ?_)
  obtain ⟨qra_3, tfa_4, ogfa_4, ocra_3⟩ := pa_5
  have egfa_4 := Fr.nil2 ogfa_4
  subst egfa_4
  have tra_3 := qra_3
  refine lv_astoreO (lv' := [(6, va_rf ra_3), (0, .ref u0), (1, .int u1), (2, .int u2), (3, .int u3), (4, .int u4), (5, .int u5)]) hx hb dX10_readies_8 hl (by decide) rfl (fun ls hl => ?_)
  refine lv_aloadO hx hb dX10_readies_10 (lv_at hl 0 rfl) ?_
  rcases va_rfc ra_3 with eqa_7 | ⟨qa_7, eqa_7⟩
  · subst eqa_7
    have hl : lv_has ls 7 [(6, .null), (0, .ref u0), (1, .int u1), (2, .int u2), (3, .int u3), (4, .int u4), (5, .int u5)] := hl
    show W _ _ _ _ _ _ _ _ _ _ _ _ _ _ _ (F0 m 12 ls [.null])
    refine lv_ifnullN (tgt := 33) hx hb dX10_readies_12 (by decide) ?_
    refine lv_iconst (v := 0) hx hb dX10_readies_33 (by decide) ?_
    exact u_zret C h hr hQ ⟨by decide, by decide⟩ (⟨τ, (Ex.rf τ), ⟨by decide, by decide⟩, t, o, (fun h_ => absurd h_ (by decide)), hGJ⟩) (Nat.le_of_ble_eq_true rfl) (Nat.le_of_ble_eq_true rfl) dX10_readies_34
  · subst eqa_7
    have tqa_7 : τ qa_7 = 1 := tra_3 _ rfl
    have ia_8 : iv u1 0 7 := ocra_3 _ rfl
    have hl : lv_has ls 7 [(6, .ref qa_7), (0, .ref u0), (1, .int u1), (2, .int u2), (3, .int u3), (4, .int u4), (5, .int u5)] := hl
    show W _ _ _ _ _ _ _ _ _ _ _ _ _ _ _ (F0 m 12 ls [.ref qa_7])
    refine lv_ifnull hx hb dX10_readies_12 ?_
    refine lv_iload_n hx hb dX10_readies_15 rfl (lv_at hl 3 rfl) ?_
    refine k_i (r_S C h hl (As := [.int u2]) (rest := []) (s_X10_isKind l D G b0 τ f t u2 hu2) mk_X10_isKind w_721 w_722 w_723 ⟨Nat.le_of_ble_eq_true rfl, Nat.le_of_ble_eq_true rfl⟩ rfl (Nat.le_of_ble_eq_true rfl) ⟨Nat.le_of_ble_eq_true rfl, Nat.le_of_ble_eq_true rfl⟩ rfl dX10_readies_16) h (fun ra_9 fa_10 H locs pa_11 h => ?_)
    obtain ⟨ira_9, tfa_10, ogfa_10, cnra_9⟩ := pa_11
    have egfa_10 := Fr.nil2 ogfa_10
    subst egfa_10
    refine lv_if_eq (tgt := 33) hx hb dX10_readies_19 (by decide) (fun ca_12 => ?_) (fun ca_12 => ?_)
    · have ca_13 : ra_9.toInt = 0 := congrArg Int32.toInt ca_12
      have ia_14 : iv ra_9 0 0 := iv_Q ca_13 ira_9 (iv_k (x := 0) (k := 0) rfl) (by decide)
      refine lv_iconst (v := 0) hx hb dX10_readies_33 (by decide) ?_
      exact u_zret C h hr hQ ⟨by decide, by decide⟩ (⟨τ, (Ex.rf τ), ⟨by decide, by decide⟩, t, o, (fun h_ => absurd h_ (by decide)), hGJ⟩) (Nat.le_of_ble_eq_true rfl) (Nat.le_of_ble_eq_true rfl) dX10_readies_34
    · have ca_13 : ra_9.toInt ≠ 0 := fun z_ => ca_12 (Int32.toInt_inj.mp z_)
      have ia_14 : iv ra_9 1 1 := iv_Nl ca_13 ira_9 (by decide)
      have ia_15 := cnra_9 ca_13
      refine lv_iload_n hx hb dX10_readies_22 rfl (lv_at hl 4 rfl) ?_
      refine lv_iload hx hb dX10_readies_23 (lv_at hl 5 rfl) ?_
      refine lv_iload hx hb dX10_readies_25 (lv_at hl 6 rfl) ?_
      refine k_i (r_S C h hl (As := [.int u3, .int u4, .int u5]) (rest := []) (s_X3_isShapea l D G b0 τ f t u3 hu3 u4 hu4 u5 hu5) mk_X3_isShape w_1030 w_1031 w_1032 ⟨Nat.le_of_ble_eq_true rfl, Nat.le_of_ble_eq_true rfl⟩ rfl (Nat.le_of_ble_eq_true rfl) ⟨Nat.le_of_ble_eq_true rfl, Nat.le_of_ble_eq_true rfl⟩ rfl dX10_readies_27) h (fun ra_16 fa_17 H locs pa_18 h => ?_)
      obtain ⟨ira_16, tfa_17, ogfa_17, cnra_16⟩ := pa_18
      have egfa_17 := Fr.nil2 ogfa_17
      subst egfa_17
      refine lv_if_ne (tgt := 35) hx hb dX10_readies_30 (by decide) (fun ca_19 => ?_) (fun ca_19 => ?_)
      · have ca_20 : ra_16.toInt ≠ 0 := fun z_ => ca_19 (Int32.toInt_inj.mp z_)
        have ia_21 : iv ra_16 1 1 := iv_Nl ca_20 ira_16 (by decide)
        obtain ⟨ia_22, ia_23⟩ := cnra_16 ca_20
        refine lv_aload_n hx hb dX10_readies_35 rfl (lv_at hl 1 rfl) ?_
        refine t_getfd C h t hu0 (by decide) wf_10 (v := .ref gu) k_u0_6 fl_X10_56 dX10_readies_36 ?_
        refine lv_aload_n hx hb dX10_readies_39 rfl (lv_at hl 1 rfl) ?_
        refine lv_aload hx hb dX10_readies_40 (lv_at hl 0 rfl) ?_
        obtain ⟨_, ra_24⟩ := t_rec t hu0 (by decide) wf_10
        refine k_q (r_V C h hl (As := [.ref qa_7]) (rest := [.ref gu]) (s_X10_terms l D G b0 τ f t u0 hu0 qa_7 tqa_7 gq rq mq hgq kq2 hGJ) ra_24 (Cn := RX10) (T := TX10) (N := 10) rfl rfl mk_X10_terms w_728 w_730 w_18 w_731 ⟨Nat.le_of_ble_eq_true rfl, Nat.le_of_ble_eq_true rfl⟩ rfl (Nat.le_of_ble_eq_true rfl) ⟨Nat.le_of_ble_eq_true rfl, Nat.le_of_ble_eq_true rfl⟩ rfl dX10_readies_42) h (fun ra_25 fa_26 H locs pa_27 h => ?_)
        obtain ⟨τfa_26, exfa_26, qra_25, tfa_26, ogfa_26, x0ra_25, gjfa_26⟩ := pa_27
        have ofa_26 : Fr [0, 1, 3, 20, 21, 22, 23, 24, 25, 45, 47, 1004, 20001, 20002, 20007, 20008, 20009, 20010, 20011, 22001, 22002, 22003, 22004, 23001, 23002, 23003, 23004, 45004] τ f fa_26 := Fr.tr o ogfa_26 (by decide) (by decide)
        have ka_28 := atp.fr k_u0_6 ogfa_26 hu0 (by decide)
        have ka_29 := atp.fr kq2 ogfa_26 hu0 (by decide)
        have Ofa_26 : Fr [0, 1, 3, 20, 21, 22, 23, 24, 25, 45, 47, 1004, 20001, 20002, 20007, 20008, 20009, 20010, 20011, 22001, 22002, 22003, 22004, 23001, 23002, 23003, 23004, 45004] τ f fa_26 := ofa_26
        have xfa_26 : Ex τ τfa_26 := exfa_26
        have ha_30 : τfa_26 gu = 45 := Ex.at exfa_26 hgu (by decide)
        have ha_31 : τfa_26 u0 = 10 := Ex.at exfa_26 hu0 (by decide)
        have ha_32 : τfa_26 qa_7 = 1 := Ex.at exfa_26 tqa_7 (by decide)
        have ha_33 : τfa_26 gq = 20 := Ex.at exfa_26 hgq (by decide)
        have ofa_26z := Fr.rf [0, 1, 3, 20, 21, 22, 23, 24, 25, 45, 47, 1004, 20001, 20002, 20007, 20008, 20009, 20010, 20011, 22001, 22002, 22003, 22004, 23001, 23002, 23003, 23004, 45004] τfa_26 fa_26
        obtain ⟨qa_34, rfl, tqa_34, ktqa_34⟩ := qra_25
        refine lv_iload_n hx hb dX10_readies_45 rfl (lv_at hl 3 rfl) ?_
        refine lv_iload_n hx hb dX10_readies_46 rfl (lv_at hl 4 rfl) ?_
        obtain ⟨_, ra_35⟩ := t_rec tfa_26 ha_30 (by decide) wf_45
        refine k_v (r_V C h hl (As := [.ref qa_34, .int u2, .int u3]) (rest := []) (s_X3_loada l D G b0 τfa_26 fa_26 tfa_26 gu ha_30 qa_34 tqa_34 u2 ia_15 u3 hu3) ra_35 (Cn := RX3) (T := TX3) (N := 4) rfl rfl mk_X3_load w_1034 w_1035 w_1036 w_1037 ⟨Nat.le_of_ble_eq_true rfl, Nat.le_of_ble_eq_true rfl⟩ rfl (Nat.le_of_ble_eq_true rfl) ⟨Nat.le_of_ble_eq_true rfl, Nat.le_of_ble_eq_true rfl⟩ rfl dX10_readies_47) h (fun fa_37 H locs pa_38 h => ?_)
        obtain ⟨tfa_37, ogfa_37, ⟨wz_fa_37, kpu0_3fa_37, ipu0_3fa_37, rpu0_3fa_37⟩⟩ := pa_38
        have ofa_37 : Fr [0, 1, 3, 20, 21, 22, 23, 24, 25, 45, 47, 1004, 20001, 20002, 20007, 20008, 20009, 20010, 20011, 22001, 22002, 22003, 22004, 23001, 23002, 23003, 23004, 45004] τfa_26 fa_26 fa_37 := Fr.tr ofa_26z ogfa_37 (by decide) (by decide)
        have ka_39 := atp.fr ka_28 ogfa_37 ha_31 (by decide)
        have ka_40 := atp.fr ka_29 ogfa_37 ha_31 (by decide)
        have ka_41 := GJ.fr gjfa_26 ogfa_37 ha_33 (by decide)
        have ka_42 := atp.fr ktqa_34 ogfa_37 ha_32 (by decide)
        refine lv_iconst (v := 1) hx hb dX10_readies_50 (by decide) ?_
        exact u_zret C h hr hQ ⟨by decide, by decide⟩ (⟨τfa_26, xfa_26, ⟨by decide, by decide⟩, tfa_37, (Fr.tr Ofa_26 (Fr.cv xfa_26 ofa_37 (by decide) (fun _ h_ => h_)) (fun _ h_ => h_) (fun _ h_ => h_)), (fun _ => ⟨ia_22, ia_23, ⟨_, kpu0_3fa_37, ipu0_3fa_37⟩⟩), ka_41⟩) (Nat.le_of_ble_eq_true rfl) (Nat.le_of_ble_eq_true rfl) dX10_readies_51
      · have ca_20 : ra_16.toInt = 0 := congrArg Int32.toInt ca_19
        have ia_21 : iv ra_16 0 0 := iv_Q ca_20 ira_16 (iv_k (x := 0) (k := 0) rfl) (by decide)
        refine lv_iconst (v := 0) hx hb dX10_readies_33 (by decide) ?_
        exact u_zret C h hr hQ ⟨by decide, by decide⟩ (⟨τ, (Ex.rf τ), ⟨by decide, by decide⟩, t, o, (fun h_ => absurd h_ (by decide)), hGJ⟩) (Nat.le_of_ble_eq_true rfl) (Nat.le_of_ble_eq_true rfl) dX10_readies_34
abbrev rm_s_X10_readiesb : Room := { frames := 6, cells := 1, slots := 305, locals := 132 }
set_option maxRecDepth 100000 in
set_option maxHeartbeats 4000000 in
theorem s_X10_readiesb (l : Launch) (D : va_G) (G : Nat → Nat) (b0 : Nat) (τ : Nat → Nat) (f : hM) (t : TI G 9 τ f) (u0 : Nat) (hu0 : τ u0 = 10) (u1 : Int32) (hu1 : iv u1 (-2147483648) 2147483647) (u2 : Int32) (hu2 : iv u2 (-2147483648) 2147483647) (u3 : Int32) (hu3 : iv u3 1 1) (u4 : Int32) (hu4 : iv u4 (-2147483648) 2147483647) (u5 : Int32) (hu5 : iv u5 (-2147483648) 2147483647) (gu : Nat) (hgu : τ gu = 45) (k_u0_6 : atp f u0 (fd 6 (.ref gu))) (gq rq mq : Nat) (hgq : τ gq = 20) (kq2 : atp f u0 (fd 2 (.ref gq))) (hGJ : GJ τ f gq rq mq) : mI l yX10_readies cX10_readies 7 (.boolean) rm_s_X10_readiesb D G b0 f [.ref u0, .int u1, .int u2, .int u3, .int u4, .int u5] (fun r f1 => (∃ τ1, Ex τ τ1 ∧ iv r 0 1 ∧ TI G 9 τ1 f1 ∧ Fr [0, 1, 3, 20, 21, 22, 23, 24, 25, 45, 47, 1004, 20001, 20002, 20007, 20008, 20009, 20010, 20011, 22001, 22002, 22003, 22004, 23001, 23002, 23003, 23004, 45004] τ f f1 ∧ (r.toInt ≠ 0 → iv u4 1 3 ∧ iv u5 0 6 ∧ (∃ wz : Int32, atp f1 gu (fd 3 (.int wz)) ∧ iv wz 1 1)) ∧ GJ τ1 f1 gq rq mq)) := by
  refine met2 (own := RX10) (by decide) rfl (Nat.le_of_ble_eq_true rfl) ?_
  intro p e s m args below meth c ls Q hQ C hr hini hl h
  have hl : lv_has ls 7 [(0, .ref u0), (1, .int u1), (2, .int u2), (3, .int u3), (4, .int u4), (5, .int u5)] := hl
  obtain ⟨hx, hb, hml, hown, hts, hE0, hlk⟩ := id C
  have o := Fr.rf [0, 1, 3, 20, 21, 22, 23, 24, 25, 45, 47, 1004, 20001, 20002, 20007, 20008, 20009, 20010, 20011, 22001, 22002, 22003, 22004, 23001, 23002, 23003, 23004, 45004] τ f
  refine lv_aload_n hx hb dX10_readies_0 rfl (lv_at hl 0 rfl) ?_
  refine t_getr (tq := 12) C h t hu0 (by decide) wf_10 rfl fl_X10_19 dX10_readies_1 (fun qa_1 tqa_1 => ?_)
  refine lv_iload_n hx hb dX10_readies_4 rfl (lv_at hl 1 rfl) ?_
  obtain ⟨_, ra_2⟩ := t_rec t tqa_1 (by decide) wf_12
  refine k_q (r_V C h hl (As := [.int u1]) (rest := []) (s_X0_findN l D G b0 τ f t qa_1 tqa_1 u1 hu1) ra_2 (Cn := RX0) (T := TX0) (N := 6) rfl rfl mk_X0_find w_594 w_595 w_596 w_597 ⟨Nat.le_of_ble_eq_true rfl, Nat.le_of_ble_eq_true rfl⟩ rfl (Nat.le_of_ble_eq_true rfl) ⟨Nat.le_of_ble_eq_true rfl, Nat.le_of_ble_eq_true rfl⟩ rfl dX10_readies_5) h (fun ra_3 fa_4 H locs pa_5 h => ?_)
  obtain ⟨qra_3, tfa_4, ogfa_4, ocra_3⟩ := pa_5
  have egfa_4 := Fr.nil2 ogfa_4
  subst egfa_4
  have tra_3 := qra_3
  refine lv_astoreO (lv' := [(6, va_rf ra_3), (0, .ref u0), (1, .int u1), (2, .int u2), (3, .int u3), (4, .int u4), (5, .int u5)]) hx hb dX10_readies_8 hl (by decide) rfl (fun ls hl => ?_)
  refine lv_aloadO hx hb dX10_readies_10 (lv_at hl 0 rfl) ?_
  rcases va_rfc ra_3 with eqa_7 | ⟨qa_7, eqa_7⟩
  · subst eqa_7
    have hl : lv_has ls 7 [(6, .null), (0, .ref u0), (1, .int u1), (2, .int u2), (3, .int u3), (4, .int u4), (5, .int u5)] := hl
    show W _ _ _ _ _ _ _ _ _ _ _ _ _ _ _ (F0 m 12 ls [.null])
    refine lv_ifnullN (tgt := 33) hx hb dX10_readies_12 (by decide) ?_
    refine lv_iconst (v := 0) hx hb dX10_readies_33 (by decide) ?_
    exact u_zret C h hr hQ ⟨by decide, by decide⟩ (⟨τ, (Ex.rf τ), ⟨by decide, by decide⟩, t, o, (fun h_ => absurd h_ (by decide)), hGJ⟩) (Nat.le_of_ble_eq_true rfl) (Nat.le_of_ble_eq_true rfl) dX10_readies_34
  · subst eqa_7
    have tqa_7 : τ qa_7 = 1 := tra_3 _ rfl
    have ia_8 : iv u1 0 7 := ocra_3 _ rfl
    have hl : lv_has ls 7 [(6, .ref qa_7), (0, .ref u0), (1, .int u1), (2, .int u2), (3, .int u3), (4, .int u4), (5, .int u5)] := hl
    show W _ _ _ _ _ _ _ _ _ _ _ _ _ _ _ (F0 m 12 ls [.ref qa_7])
    refine lv_ifnull hx hb dX10_readies_12 ?_
    refine lv_iload_n hx hb dX10_readies_15 rfl (lv_at hl 3 rfl) ?_
    refine k_i (r_S C h hl (As := [.int u2]) (rest := []) (s_X10_isKind l D G b0 τ f t u2 hu2) mk_X10_isKind w_721 w_722 w_723 ⟨Nat.le_of_ble_eq_true rfl, Nat.le_of_ble_eq_true rfl⟩ rfl (Nat.le_of_ble_eq_true rfl) ⟨Nat.le_of_ble_eq_true rfl, Nat.le_of_ble_eq_true rfl⟩ rfl dX10_readies_16) h (fun ra_9 fa_10 H locs pa_11 h => ?_)
    obtain ⟨ira_9, tfa_10, ogfa_10, cnra_9⟩ := pa_11
    have egfa_10 := Fr.nil2 ogfa_10
    subst egfa_10
    refine lv_if_eq (tgt := 33) hx hb dX10_readies_19 (by decide) (fun ca_12 => ?_) (fun ca_12 => ?_)
    · have ca_13 : ra_9.toInt = 0 := congrArg Int32.toInt ca_12
      have ia_14 : iv ra_9 0 0 := iv_Q ca_13 ira_9 (iv_k (x := 0) (k := 0) rfl) (by decide)
      refine lv_iconst (v := 0) hx hb dX10_readies_33 (by decide) ?_
      exact u_zret C h hr hQ ⟨by decide, by decide⟩ (⟨τ, (Ex.rf τ), ⟨by decide, by decide⟩, t, o, (fun h_ => absurd h_ (by decide)), hGJ⟩) (Nat.le_of_ble_eq_true rfl) (Nat.le_of_ble_eq_true rfl) dX10_readies_34
    · have ca_13 : ra_9.toInt ≠ 0 := fun z_ => ca_12 (Int32.toInt_inj.mp z_)
      have ia_14 : iv ra_9 1 1 := iv_Nl ca_13 ira_9 (by decide)
      have ia_15 := cnra_9 ca_13
      refine lv_iload_n hx hb dX10_readies_22 rfl (lv_at hl 4 rfl) ?_
      refine lv_iload hx hb dX10_readies_23 (lv_at hl 5 rfl) ?_
      refine lv_iload hx hb dX10_readies_25 (lv_at hl 6 rfl) ?_
      refine k_i (r_S C h hl (As := [.int u3, .int u4, .int u5]) (rest := []) (s_X3_isShapeb l D G b0 τ f t u3 hu3 u4 hu4 u5 hu5) mk_X3_isShape w_1030 w_1031 w_1032 ⟨Nat.le_of_ble_eq_true rfl, Nat.le_of_ble_eq_true rfl⟩ rfl (Nat.le_of_ble_eq_true rfl) ⟨Nat.le_of_ble_eq_true rfl, Nat.le_of_ble_eq_true rfl⟩ rfl dX10_readies_27) h (fun ra_16 fa_17 H locs pa_18 h => ?_)
      obtain ⟨ira_16, tfa_17, ogfa_17, cnra_16⟩ := pa_18
      have egfa_17 := Fr.nil2 ogfa_17
      subst egfa_17
      refine lv_if_ne (tgt := 35) hx hb dX10_readies_30 (by decide) (fun ca_19 => ?_) (fun ca_19 => ?_)
      · have ca_20 : ra_16.toInt ≠ 0 := fun z_ => ca_19 (Int32.toInt_inj.mp z_)
        have ia_21 : iv ra_16 1 1 := iv_Nl ca_20 ira_16 (by decide)
        obtain ⟨ia_22, ia_23⟩ := cnra_16 ca_20
        refine lv_aload_n hx hb dX10_readies_35 rfl (lv_at hl 1 rfl) ?_
        refine t_getfd C h t hu0 (by decide) wf_10 (v := .ref gu) k_u0_6 fl_X10_56 dX10_readies_36 ?_
        refine lv_aload_n hx hb dX10_readies_39 rfl (lv_at hl 1 rfl) ?_
        refine lv_aload hx hb dX10_readies_40 (lv_at hl 0 rfl) ?_
        obtain ⟨_, ra_24⟩ := t_rec t hu0 (by decide) wf_10
        refine k_q (r_V C h hl (As := [.ref qa_7]) (rest := [.ref gu]) (s_X10_terms l D G b0 τ f t u0 hu0 qa_7 tqa_7 gq rq mq hgq kq2 hGJ) ra_24 (Cn := RX10) (T := TX10) (N := 10) rfl rfl mk_X10_terms w_728 w_730 w_18 w_731 ⟨Nat.le_of_ble_eq_true rfl, Nat.le_of_ble_eq_true rfl⟩ rfl (Nat.le_of_ble_eq_true rfl) ⟨Nat.le_of_ble_eq_true rfl, Nat.le_of_ble_eq_true rfl⟩ rfl dX10_readies_42) h (fun ra_25 fa_26 H locs pa_27 h => ?_)
        obtain ⟨τfa_26, exfa_26, qra_25, tfa_26, ogfa_26, x0ra_25, gjfa_26⟩ := pa_27
        have ofa_26 : Fr [0, 1, 3, 20, 21, 22, 23, 24, 25, 45, 47, 1004, 20001, 20002, 20007, 20008, 20009, 20010, 20011, 22001, 22002, 22003, 22004, 23001, 23002, 23003, 23004, 45004] τ f fa_26 := Fr.tr o ogfa_26 (by decide) (by decide)
        have ka_28 := atp.fr k_u0_6 ogfa_26 hu0 (by decide)
        have ka_29 := atp.fr kq2 ogfa_26 hu0 (by decide)
        have Ofa_26 : Fr [0, 1, 3, 20, 21, 22, 23, 24, 25, 45, 47, 1004, 20001, 20002, 20007, 20008, 20009, 20010, 20011, 22001, 22002, 22003, 22004, 23001, 23002, 23003, 23004, 45004] τ f fa_26 := ofa_26
        have xfa_26 : Ex τ τfa_26 := exfa_26
        have ha_30 : τfa_26 gu = 45 := Ex.at exfa_26 hgu (by decide)
        have ha_31 : τfa_26 u0 = 10 := Ex.at exfa_26 hu0 (by decide)
        have ha_32 : τfa_26 qa_7 = 1 := Ex.at exfa_26 tqa_7 (by decide)
        have ha_33 : τfa_26 gq = 20 := Ex.at exfa_26 hgq (by decide)
        have ofa_26z := Fr.rf [0, 1, 3, 20, 21, 22, 23, 24, 25, 45, 47, 1004, 20001, 20002, 20007, 20008, 20009, 20010, 20011, 22001, 22002, 22003, 22004, 23001, 23002, 23003, 23004, 45004] τfa_26 fa_26
        obtain ⟨qa_34, rfl, tqa_34, ktqa_34⟩ := qra_25
        refine lv_iload_n hx hb dX10_readies_45 rfl (lv_at hl 3 rfl) ?_
        refine lv_iload_n hx hb dX10_readies_46 rfl (lv_at hl 4 rfl) ?_
        obtain ⟨_, ra_35⟩ := t_rec tfa_26 ha_30 (by decide) wf_45
        refine k_v (r_V C h hl (As := [.ref qa_34, .int u2, .int u3]) (rest := []) (s_X3_loadb l D G b0 τfa_26 fa_26 tfa_26 gu ha_30 qa_34 tqa_34 u2 ia_15 u3 hu3) ra_35 (Cn := RX3) (T := TX3) (N := 4) rfl rfl mk_X3_load w_1034 w_1035 w_1036 w_1037 ⟨Nat.le_of_ble_eq_true rfl, Nat.le_of_ble_eq_true rfl⟩ rfl (Nat.le_of_ble_eq_true rfl) ⟨Nat.le_of_ble_eq_true rfl, Nat.le_of_ble_eq_true rfl⟩ rfl dX10_readies_47) h (fun fa_37 H locs pa_38 h => ?_)
        obtain ⟨tfa_37, ogfa_37, ⟨wz_fa_37, kpu0_3fa_37, ipu0_3fa_37, rpu0_3fa_37⟩⟩ := pa_38
        have ofa_37 : Fr [0, 1, 3, 20, 21, 22, 23, 24, 25, 45, 47, 1004, 20001, 20002, 20007, 20008, 20009, 20010, 20011, 22001, 22002, 22003, 22004, 23001, 23002, 23003, 23004, 45004] τfa_26 fa_26 fa_37 := Fr.tr ofa_26z ogfa_37 (by decide) (by decide)
        have ka_39 := atp.fr ka_28 ogfa_37 ha_31 (by decide)
        have ka_40 := atp.fr ka_29 ogfa_37 ha_31 (by decide)
        have ka_41 := GJ.fr gjfa_26 ogfa_37 ha_33 (by decide)
        have ka_42 := atp.fr ktqa_34 ogfa_37 ha_32 (by decide)
        refine lv_iconst (v := 1) hx hb dX10_readies_50 (by decide) ?_
        exact u_zret C h hr hQ ⟨by decide, by decide⟩ (⟨τfa_26, xfa_26, ⟨by decide, by decide⟩, tfa_37, (Fr.tr Ofa_26 (Fr.cv xfa_26 ofa_37 (by decide) (fun _ h_ => h_)) (fun _ h_ => h_) (fun _ h_ => h_)), (fun _ => ⟨ia_22, ia_23, ⟨_, kpu0_3fa_37, ipu0_3fa_37⟩⟩), ka_41⟩) (Nat.le_of_ble_eq_true rfl) (Nat.le_of_ble_eq_true rfl) dX10_readies_51
      · have ca_20 : ra_16.toInt = 0 := congrArg Int32.toInt ca_19
        have ia_21 : iv ra_16 0 0 := iv_Q ca_20 ira_16 (iv_k (x := 0) (k := 0) rfl) (by decide)
        refine lv_iconst (v := 0) hx hb dX10_readies_33 (by decide) ?_
        exact u_zret C h hr hQ ⟨by decide, by decide⟩ (⟨τ, (Ex.rf τ), ⟨by decide, by decide⟩, t, o, (fun h_ => absurd h_ (by decide)), hGJ⟩) (Nat.le_of_ble_eq_true rfl) (Nat.le_of_ble_eq_true rfl) dX10_readies_34
abbrev rm_s_X10_recurrence : Room := { frames := 7, cells := 1, slots := 305, locals := 158 }
set_option maxRecDepth 100000 in
set_option maxHeartbeats 4000000 in
theorem s_X10_recurrence (l : Launch) (D : va_G) (G : Nat → Nat) (b0 : Nat) (τ : Nat → Nat) (f : hM) (t : TI G 9 τ f) (u0 : Nat) (hu0 : τ u0 = 10) (u1 : Int32) (hu1 : iv u1 (-2147483648) 2147483647) (u2 : Int32) (hu2 : iv u2 (-2147483648) 2147483647) (u3 : Int32) (hu3 : iv u3 (-2147483648) 2147483647) (u4 : Int32) (hu4 : iv u4 (-2147483648) 2147483647) (u5 : Int32) (hu5 : iv u5 (-2147483648) 2147483647) (u6 : Int32) (hu6 : iv u6 (-2147483648) 2147483647) (gq rq mq : Nat) (hgq : τ gq = 20) (kq2 : atp f u0 (fd 2 (.ref gq))) (hGJ : GJ τ f gq rq mq) : mI l yX10_recurrence cX10_recurrence 8 (.int) rm_s_X10_recurrence D G b0 f [.ref u0, .int u1, .int u2, .int u3, .int u4, .int u5, .int u6] (fun r f1 => (∃ τ1, Ex τ τ1 ∧ iv r (-2147483648) 2147483647 ∧ TI G 9 τ1 f1 ∧ Fr [0, 1, 3, 20, 21, 22, 23, 24, 25, 40, 41, 42, 45, 47, 48, 1004, 20001, 20002, 20007, 20008, 20009, 20010, 20011, 22001, 22002, 22003, 22004, 23001, 23002, 23003, 23004, 40002, 40003, 40004, 45004] τ f f1 ∧ GJ τ1 f1 gq rq mq)) := by
  refine met2 (own := RX10) (by decide) rfl (Nat.le_of_ble_eq_true rfl) ?_
  intro p e s m args below meth c ls Q hQ C hr hini hl h
  have hl : lv_has ls 8 [(0, .ref u0), (1, .int u1), (2, .int u2), (3, .int u3), (4, .int u4), (5, .int u5), (6, .int u6)] := hl
  obtain ⟨hx, hb, hml, hown, hts, hE0, hlk⟩ := id C
  have o := Fr.rf [0, 1, 3, 20, 21, 22, 23, 24, 25, 40, 41, 42, 45, 47, 48, 1004, 20001, 20002, 20007, 20008, 20009, 20010, 20011, 22001, 22002, 22003, 22004, 23001, 23002, 23003, 23004, 40002, 40003, 40004, 45004] τ f
  obtain ⟨gu, hgu, kgu⟩ := t_fref (tq := 45) (k := 6) t hu0 (by decide) wf_10 rfl
  refine lv_aload_n hx hb dX10_recurrence_0 rfl (lv_at hl 0 rfl) ?_
  refine lv_iload_n hx hb dX10_recurrence_1 rfl (lv_at hl 1 rfl) ?_
  refine lv_iload_n hx hb dX10_recurrence_2 rfl (lv_at hl 2 rfl) ?_
  refine lv_iconst (v := 0) hx hb dX10_recurrence_3 (by decide) ?_
  refine lv_iload_n hx hb dX10_recurrence_4 rfl (lv_at hl 3 rfl) ?_
  refine lv_iload hx hb dX10_recurrence_5 (lv_at hl 4 rfl) ?_
  obtain ⟨_, ra_1⟩ := t_rec t hu0 (by decide) wf_10
  refine k_i (r_V C h hl (As := [.int u1, .int u2, .int 0, .int u3, .int u4]) (rest := []) (s_X10_readiesa l D G b0 τ f t u0 hu0 u1 hu1 u2 hu2 0 (iv_w (iv_k (x := 0) (k := 0) rfl) (by decide)) u3 hu3 u4 hu4 gu hgu kgu gq rq mq hgq kq2 hGJ) ra_1 (Cn := RX10) (T := TX10) (N := 10) rfl rfl mk_X10_readies w_1026 w_1028 w_27 w_1029 ⟨Nat.le_of_ble_eq_true rfl, Nat.le_of_ble_eq_true rfl⟩ rfl (Nat.le_of_ble_eq_true rfl) ⟨Nat.le_of_ble_eq_true rfl, Nat.le_of_ble_eq_true rfl⟩ rfl dX10_recurrence_7) h (fun ra_2 fa_3 H locs pa_4 h => ?_)
  have na_5 : (0 : Int32).toInt = 0 := rfl
  obtain ⟨τfa_3, exfa_3, ira_2, tfa_3, ogfa_3, cnra_2, gjfa_3⟩ := pa_4
  have ofa_3 : Fr [0, 1, 3, 20, 21, 22, 23, 24, 25, 40, 41, 42, 45, 47, 48, 1004, 20001, 20002, 20007, 20008, 20009, 20010, 20011, 22001, 22002, 22003, 22004, 23001, 23002, 23003, 23004, 40002, 40003, 40004, 45004] τ f fa_3 := Fr.tr o ogfa_3 (by decide) (by decide)
  have ka_6 := atp.fr kq2 ogfa_3 hu0 (by decide)
  have ka_7 := atp.fr kgu ogfa_3 hu0 (by decide)
  have Ofa_3 : Fr [0, 1, 3, 20, 21, 22, 23, 24, 25, 40, 41, 42, 45, 47, 48, 1004, 20001, 20002, 20007, 20008, 20009, 20010, 20011, 22001, 22002, 22003, 22004, 23001, 23002, 23003, 23004, 40002, 40003, 40004, 45004] τ f fa_3 := ofa_3
  have xfa_3 : Ex τ τfa_3 := exfa_3
  have ha_8 : τfa_3 u0 = 10 := Ex.at exfa_3 hu0 (by decide)
  have ha_9 : τfa_3 gq = 20 := Ex.at exfa_3 hgq (by decide)
  have ha_10 : τfa_3 gu = 45 := Ex.at exfa_3 hgu (by decide)
  have ofa_3z := Fr.rf [0, 1, 3, 20, 21, 22, 23, 24, 25, 40, 41, 42, 45, 47, 48, 1004, 20001, 20002, 20007, 20008, 20009, 20010, 20011, 22001, 22002, 22003, 22004, 23001, 23002, 23003, 23004, 40002, 40003, 40004, 45004] τfa_3 fa_3
  refine lv_istore (lv' := [(7, .int ra_2), (0, .ref u0), (1, .int u1), (2, .int u2), (3, .int u3), (4, .int u4), (5, .int u5), (6, .int u6)]) hx hb dX10_recurrence_10 hl (by decide) rfl (fun ls hl => ?_)
  refine lv_iload hx hb dX10_recurrence_12 (lv_at hl 0 rfl) ?_
  refine lv_if_eq (tgt := 55) hx hb dX10_recurrence_14 (by decide) (fun ca_11 => ?_) (fun ca_11 => ?_)
  · have ca_12 : ra_2.toInt = 0 := congrArg Int32.toInt ca_11
    have ia_13 : iv ra_2 0 0 := iv_Q ca_12 ira_2 (iv_k (x := 0) (k := 0) rfl) (by decide)
    refine lv_ldc (v := -1000000) hx hb hown (hts _ w_772) dX10_recurrence_55 ?_
    exact u_iret C h hr hQ (⟨τfa_3, xfa_3, ⟨by decide, by decide⟩, tfa_3, (Fr.tr Ofa_3 (Fr.cv xfa_3 ofa_3z (by decide) (fun _ h_ => h_)) (fun _ h_ => h_) (fun _ h_ => h_)), gjfa_3⟩) (Nat.le_of_ble_eq_true rfl) (Nat.le_of_ble_eq_true rfl) dX10_recurrence_57
  · have ca_12 : ra_2.toInt ≠ 0 := fun z_ => ca_11 (Int32.toInt_inj.mp z_)
    have ia_13 : iv ra_2 1 1 := iv_Nl ca_12 ira_2 (by decide)
    obtain ⟨ia_14, ia_15, ia_16⟩ := cnra_2 ca_12
    obtain ⟨za_17, kza_17, iza_17⟩ := ia_16
    refine lv_iload hx hb dX10_recurrence_17 (lv_at hl 6 rfl) ?_
    refine lv_iconst (v := 0) hx hb dX10_recurrence_19 (by decide) ?_
    refine lv_iload_n hx hb dX10_recurrence_20 rfl (lv_at hl 4 rfl) ?_
    refine k_i (r_S C h hl (As := [.int u5, .int 0, .int u3]) (rest := []) (s_X10_within l D G b0 τfa_3 fa_3 tfa_3 u5 hu5 0 (iv_w (iv_k (x := 0) (k := 0) rfl) (by decide)) u3 (iv_w ia_14 (by decide))) mk_X10_within w_425 w_426 w_427 ⟨Nat.le_of_ble_eq_true rfl, Nat.le_of_ble_eq_true rfl⟩ rfl (Nat.le_of_ble_eq_true rfl) ⟨Nat.le_of_ble_eq_true rfl, Nat.le_of_ble_eq_true rfl⟩ rfl dX10_recurrence_21) h (fun ra_18 fa_19 H locs pa_20 h => ?_)
    have na_21 : (0 : Int32).toInt = 0 := rfl
    obtain ⟨ira_18, tfa_19, ogfa_19, cnra_18, czra_18⟩ := pa_20
    have egfa_19 := Fr.nil2 ogfa_19
    subst egfa_19
    refine lv_if_eq (tgt := 55) hx hb dX10_recurrence_24 (by decide) (fun ca_22 => ?_) (fun ca_22 => ?_)
    · have ca_23 : ra_18.toInt = 0 := congrArg Int32.toInt ca_22
      have ia_24 : iv ra_18 0 0 := iv_Q ca_23 ira_18 (iv_k (x := 0) (k := 0) rfl) (by decide)
      have ia_25 := czra_18 ca_23
      refine lv_ldc (v := -1000000) hx hb hown (hts _ w_772) dX10_recurrence_55 ?_
      exact u_iret C h hr hQ (⟨τfa_3, xfa_3, ⟨by decide, by decide⟩, tfa_3, (Fr.tr Ofa_3 (Fr.cv xfa_3 ofa_3z (by decide) (fun _ h_ => h_)) (fun _ h_ => h_) (fun _ h_ => h_)), gjfa_3⟩) (Nat.le_of_ble_eq_true rfl) (Nat.le_of_ble_eq_true rfl) dX10_recurrence_57
    · have ca_23 : ra_18.toInt ≠ 0 := fun z_ => ca_22 (Int32.toInt_inj.mp z_)
      have ia_24 : iv ra_18 1 1 := iv_Nl ca_23 ira_18 (by decide)
      obtain ⟨ia_25, ia_26⟩ := cnra_18 ca_23
      have ia_27 : iv u5 0 4 := ⟨by omega, by omega⟩
      refine lv_iload hx hb dX10_recurrence_27 (lv_at hl 7 rfl) ?_
      refine lv_iconst (v := 0) hx hb dX10_recurrence_29 (by decide) ?_
      refine lv_iload hx hb dX10_recurrence_30 (lv_at hl 5 rfl) ?_
      refine k_i (r_S C h hl (As := [.int u6, .int 0, .int u4]) (rest := []) (s_X10_within l D G b0 τfa_3 fa_3 tfa_3 u6 hu6 0 (iv_w (iv_k (x := 0) (k := 0) rfl) (by decide)) u4 (iv_w ia_15 (by decide))) mk_X10_within w_425 w_426 w_427 ⟨Nat.le_of_ble_eq_true rfl, Nat.le_of_ble_eq_true rfl⟩ rfl (Nat.le_of_ble_eq_true rfl) ⟨Nat.le_of_ble_eq_true rfl, Nat.le_of_ble_eq_true rfl⟩ rfl dX10_recurrence_32) h (fun ra_28 fa_29 H locs pa_30 h => ?_)
      have na_31 : (0 : Int32).toInt = 0 := rfl
      obtain ⟨ira_28, tfa_29, ogfa_29, cnra_28, czra_28⟩ := pa_30
      have egfa_29 := Fr.nil2 ogfa_29
      subst egfa_29
      refine lv_if_eq (tgt := 55) hx hb dX10_recurrence_35 (by decide) (fun ca_32 => ?_) (fun ca_32 => ?_)
      · have ca_33 : ra_28.toInt = 0 := congrArg Int32.toInt ca_32
        have ia_34 : iv ra_28 0 0 := iv_Q ca_33 ira_28 (iv_k (x := 0) (k := 0) rfl) (by decide)
        have ia_35 := czra_28 ca_33
        refine lv_ldc (v := -1000000) hx hb hown (hts _ w_772) dX10_recurrence_55 ?_
        exact u_iret C h hr hQ (⟨τfa_3, xfa_3, ⟨by decide, by decide⟩, tfa_3, (Fr.tr Ofa_3 (Fr.cv xfa_3 ofa_3z (by decide) (fun _ h_ => h_)) (fun _ h_ => h_) (fun _ h_ => h_)), gjfa_3⟩) (Nat.le_of_ble_eq_true rfl) (Nat.le_of_ble_eq_true rfl) dX10_recurrence_57
      · have ca_33 : ra_28.toInt ≠ 0 := fun z_ => ca_32 (Int32.toInt_inj.mp z_)
        have ia_34 : iv ra_28 1 1 := iv_Nl ca_33 ira_28 (by decide)
        obtain ⟨ia_35, ia_36⟩ := cnra_28 ca_33
        have ia_37 : iv u6 0 4 := ⟨by omega, by omega⟩
        refine lv_aload_n hx hb dX10_recurrence_38 rfl (lv_at hl 1 rfl) ?_
        refine t_getfd C h tfa_3 ha_8 (by decide) wf_10 (v := .ref gu) ka_7 fl_X10_56 dX10_recurrence_39 ?_
        refine lv_iload_n hx hb dX10_recurrence_42 rfl (lv_at hl 4 rfl) ?_
        refine lv_iload hx hb dX10_recurrence_43 (lv_at hl 5 rfl) ?_
        refine lv_iload hx hb dX10_recurrence_45 (lv_at hl 6 rfl) ?_
        refine lv_iload hx hb dX10_recurrence_47 (lv_at hl 7 rfl) ?_
        obtain ⟨_, ra_38⟩ := t_rec tfa_3 ha_10 (by decide) wf_45
        refine k_i (r_V C h hl (As := [.int u3, .int u4, .int u5, .int u6]) (rest := []) (s_X3_coefficienta l D G b0 τfa_3 fa_3 tfa_3 gu ha_10 u3 ia_14 u4 ia_15 u5 (iv_w ia_27 (by decide)) u6 (iv_w ia_37 (by decide)) za_17 iza_17 kza_17) ra_38 (Cn := RX3) (T := TX3) (N := 4) rfl rfl mk_X3_coefficient w_1044 w_1045 w_1046 w_1047 ⟨Nat.le_of_ble_eq_true rfl, Nat.le_of_ble_eq_true rfl⟩ rfl (Nat.le_of_ble_eq_true rfl) ⟨Nat.le_of_ble_eq_true rfl, Nat.le_of_ble_eq_true rfl⟩ rfl dX10_recurrence_49) h (fun ra_39 fa_40 H locs pa_41 h => ?_)
        obtain ⟨ira_39, tfa_40, ogfa_40⟩ := pa_41
        have ofa_40 : Fr [0, 1, 3, 20, 21, 22, 23, 24, 25, 40, 41, 42, 45, 47, 48, 1004, 20001, 20002, 20007, 20008, 20009, 20010, 20011, 22001, 22002, 22003, 22004, 23001, 23002, 23003, 23004, 40002, 40003, 40004, 45004] τfa_3 fa_3 fa_40 := Fr.tr ofa_3z ogfa_40 (by decide) (by decide)
        have ka_42 := atp.fr ka_6 ogfa_40 ha_8 (by decide)
        have ka_43 := atp.fr ka_7 ogfa_40 ha_8 (by decide)
        have ka_44 := GJ.fr gjfa_3 ogfa_40 ha_9 (by decide)
        have ka_45 := atp.fr kza_17 ogfa_40 ha_10 (by decide)
        refine lv_goto (tgt := 57) hx hb dX10_recurrence_52 (by decide) ?_
        exact u_iret C h hr hQ (⟨τfa_3, xfa_3, ira_39, tfa_40, (Fr.tr Ofa_3 (Fr.cv xfa_3 ofa_40 (by decide) (fun _ h_ => h_)) (fun _ h_ => h_) (fun _ h_ => h_)), ka_44⟩) (Nat.le_of_ble_eq_true rfl) (Nat.le_of_ble_eq_true rfl) dX10_recurrence_57
abbrev rm_s_X10_fails : Room := { frames := 7, cells := 1, slots := 305, locals := 158 }
set_option maxRecDepth 100000 in
set_option maxHeartbeats 4000000 in
theorem s_X10_fails (l : Launch) (D : va_G) (G : Nat → Nat) (b0 : Nat) (τ : Nat → Nat) (f : hM) (t : TI G 9 τ f) (u0 : Nat) (hu0 : τ u0 = 10) (u1 : Int32) (hu1 : iv u1 (-2147483648) 2147483647) (u2 : Int32) (hu2 : iv u2 (-2147483648) 2147483647) (u3 : Int32) (hu3 : iv u3 (-2147483648) 2147483647) (u4 : Int32) (hu4 : iv u4 (-2147483648) 2147483647) (gq rq mq : Nat) (hgq : τ gq = 20) (kq2 : atp f u0 (fd 2 (.ref gq))) (hGJ : GJ τ f gq rq mq) : mI l yX10_fails cX10_fails 5 (.int) rm_s_X10_fails D G b0 f [.ref u0, .int u1, .int u2, .int u3, .int u4] (fun r f1 => (∃ τ1, Ex τ τ1 ∧ iv r (-1000000) 59 ∧ TI G 9 τ1 f1 ∧ Fr [0, 1, 3, 20, 21, 22, 23, 24, 25, 40, 41, 42, 45, 47, 48, 1004, 20001, 20002, 20007, 20008, 20009, 20010, 20011, 22001, 22002, 22003, 22004, 23001, 23002, 23003, 23004, 40002, 40003, 40004, 45004] τ f f1 ∧ GJ τ1 f1 gq rq mq)) := by
  refine met2 (own := RX10) (by decide) rfl (Nat.le_of_ble_eq_true rfl) ?_
  intro p e s m args below meth c ls Q hQ C hr hini hl h
  have hl : lv_has ls 5 [(0, .ref u0), (1, .int u1), (2, .int u2), (3, .int u3), (4, .int u4)] := hl
  obtain ⟨hx, hb, hml, hown, hts, hE0, hlk⟩ := id C
  have o := Fr.rf [0, 1, 3, 20, 21, 22, 23, 24, 25, 40, 41, 42, 45, 47, 48, 1004, 20001, 20002, 20007, 20008, 20009, 20010, 20011, 22001, 22002, 22003, 22004, 23001, 23002, 23003, 23004, 40002, 40003, 40004, 45004] τ f
  obtain ⟨gu, hgu, kgu⟩ := t_fref (tq := 45) (k := 6) t hu0 (by decide) wf_10 rfl
  refine lv_aload_n hx hb dX10_fails_0 rfl (lv_at hl 0 rfl) ?_
  refine lv_iload_n hx hb dX10_fails_1 rfl (lv_at hl 1 rfl) ?_
  refine lv_iload_n hx hb dX10_fails_2 rfl (lv_at hl 2 rfl) ?_
  refine lv_iconst (v := 0) hx hb dX10_fails_3 (by decide) ?_
  refine lv_iload_n hx hb dX10_fails_4 rfl (lv_at hl 3 rfl) ?_
  refine lv_iload hx hb dX10_fails_5 (lv_at hl 4 rfl) ?_
  obtain ⟨_, ra_1⟩ := t_rec t hu0 (by decide) wf_10
  refine k_i (r_V C h hl (As := [.int u1, .int u2, .int 0, .int u3, .int u4]) (rest := []) (s_X10_readiesa l D G b0 τ f t u0 hu0 u1 hu1 u2 hu2 0 (iv_w (iv_k (x := 0) (k := 0) rfl) (by decide)) u3 hu3 u4 hu4 gu hgu kgu gq rq mq hgq kq2 hGJ) ra_1 (Cn := RX10) (T := TX10) (N := 10) rfl rfl mk_X10_readies w_1026 w_1028 w_27 w_1029 ⟨Nat.le_of_ble_eq_true rfl, Nat.le_of_ble_eq_true rfl⟩ rfl (Nat.le_of_ble_eq_true rfl) ⟨Nat.le_of_ble_eq_true rfl, Nat.le_of_ble_eq_true rfl⟩ rfl dX10_fails_7) h (fun ra_2 fa_3 H locs pa_4 h => ?_)
  have na_5 : (0 : Int32).toInt = 0 := rfl
  obtain ⟨τfa_3, exfa_3, ira_2, tfa_3, ogfa_3, cnra_2, gjfa_3⟩ := pa_4
  have ofa_3 : Fr [0, 1, 3, 20, 21, 22, 23, 24, 25, 40, 41, 42, 45, 47, 48, 1004, 20001, 20002, 20007, 20008, 20009, 20010, 20011, 22001, 22002, 22003, 22004, 23001, 23002, 23003, 23004, 40002, 40003, 40004, 45004] τ f fa_3 := Fr.tr o ogfa_3 (by decide) (by decide)
  have ka_6 := atp.fr kq2 ogfa_3 hu0 (by decide)
  have ka_7 := atp.fr kgu ogfa_3 hu0 (by decide)
  have Ofa_3 : Fr [0, 1, 3, 20, 21, 22, 23, 24, 25, 40, 41, 42, 45, 47, 48, 1004, 20001, 20002, 20007, 20008, 20009, 20010, 20011, 22001, 22002, 22003, 22004, 23001, 23002, 23003, 23004, 40002, 40003, 40004, 45004] τ f fa_3 := ofa_3
  have xfa_3 : Ex τ τfa_3 := exfa_3
  have ha_8 : τfa_3 u0 = 10 := Ex.at exfa_3 hu0 (by decide)
  have ha_9 : τfa_3 gq = 20 := Ex.at exfa_3 hgq (by decide)
  have ha_10 : τfa_3 gu = 45 := Ex.at exfa_3 hgu (by decide)
  have ofa_3z := Fr.rf [0, 1, 3, 20, 21, 22, 23, 24, 25, 40, 41, 42, 45, 47, 48, 1004, 20001, 20002, 20007, 20008, 20009, 20010, 20011, 22001, 22002, 22003, 22004, 23001, 23002, 23003, 23004, 40002, 40003, 40004, 45004] τfa_3 fa_3
  refine lv_if_eq (tgt := 26) hx hb dX10_fails_10 (by decide) (fun ca_11 => ?_) (fun ca_11 => ?_)
  · have ca_12 : ra_2.toInt = 0 := congrArg Int32.toInt ca_11
    have ia_13 : iv ra_2 0 0 := iv_Q ca_12 ira_2 (iv_k (x := 0) (k := 0) rfl) (by decide)
    refine lv_ldc (v := -1000000) hx hb hown (hts _ w_772) dX10_fails_26 ?_
    exact u_iret C h hr hQ (⟨τfa_3, xfa_3, ⟨by decide, by decide⟩, tfa_3, (Fr.tr Ofa_3 (Fr.cv xfa_3 ofa_3z (by decide) (fun _ h_ => h_)) (fun _ h_ => h_) (fun _ h_ => h_)), gjfa_3⟩) (Nat.le_of_ble_eq_true rfl) (Nat.le_of_ble_eq_true rfl) dX10_fails_28
  · have ca_12 : ra_2.toInt ≠ 0 := fun z_ => ca_11 (Int32.toInt_inj.mp z_)
    have ia_13 : iv ra_2 1 1 := iv_Nl ca_12 ira_2 (by decide)
    obtain ⟨ia_14, ia_15, ia_16⟩ := cnra_2 ca_12
    obtain ⟨za_17, kza_17, iza_17⟩ := ia_16
    refine lv_aload_n hx hb dX10_fails_13 rfl (lv_at hl 0 rfl) ?_
    refine t_getfd C h tfa_3 ha_8 (by decide) wf_10 (v := .ref gu) ka_7 fl_X10_56 dX10_fails_14 ?_
    refine lv_iload_n hx hb dX10_fails_17 rfl (lv_at hl 3 rfl) ?_
    refine lv_iload hx hb dX10_fails_18 (lv_at hl 4 rfl) ?_
    obtain ⟨_, ra_18⟩ := t_rec tfa_3 ha_10 (by decide) wf_45
    refine k_i (r_V C h hl (As := [.int u3, .int u4]) (rest := []) (s_X3_failinga l D G b0 τfa_3 fa_3 tfa_3 gu ha_10 u3 ia_14 u4 ia_15 za_17 iza_17 kza_17) ra_18 (Cn := RX3) (T := TX3) (N := 4) rfl rfl mk_X3_failing w_1071 w_1072 w_1073 w_1074 ⟨Nat.le_of_ble_eq_true rfl, Nat.le_of_ble_eq_true rfl⟩ rfl (Nat.le_of_ble_eq_true rfl) ⟨Nat.le_of_ble_eq_true rfl, Nat.le_of_ble_eq_true rfl⟩ rfl dX10_fails_20) h (fun ra_19 fa_20 H locs pa_21 h => ?_)
    obtain ⟨ira_19, tfa_20, ogfa_20⟩ := pa_21
    have ofa_20 : Fr [0, 1, 3, 20, 21, 22, 23, 24, 25, 40, 41, 42, 45, 47, 48, 1004, 20001, 20002, 20007, 20008, 20009, 20010, 20011, 22001, 22002, 22003, 22004, 23001, 23002, 23003, 23004, 40002, 40003, 40004, 45004] τfa_3 fa_3 fa_20 := Fr.tr ofa_3z ogfa_20 (by decide) (by decide)
    have ka_22 := atp.fr ka_6 ogfa_20 ha_8 (by decide)
    have ka_23 := atp.fr ka_7 ogfa_20 ha_8 (by decide)
    have ka_24 := GJ.fr gjfa_3 ogfa_20 ha_9 (by decide)
    have ka_25 := atp.fr kza_17 ogfa_20 ha_10 (by decide)
    refine lv_goto (tgt := 28) hx hb dX10_fails_23 (by decide) ?_
    exact u_iret C h hr hQ (⟨τfa_3, xfa_3, (iv_w ira_19 (by decide)), tfa_20, (Fr.tr Ofa_3 (Fr.cv xfa_3 ofa_20 (by decide) (fun _ h_ => h_)) (fun _ h_ => h_) (fun _ h_ => h_)), ka_24⟩) (Nat.le_of_ble_eq_true rfl) (Nat.le_of_ble_eq_true rfl) dX10_fails_28
abbrev rm_s_X10_equation : Room := { frames := 7, cells := 1, slots := 305, locals := 158 }
set_option maxRecDepth 100000 in
set_option maxHeartbeats 4000000 in
theorem s_X10_equation (l : Launch) (D : va_G) (G : Nat → Nat) (b0 : Nat) (τ : Nat → Nat) (f : hM) (t : TI G 9 τ f) (u0 : Nat) (hu0 : τ u0 = 10) (u1 : Int32) (hu1 : iv u1 (-2147483648) 2147483647) (u2 : Int32) (hu2 : iv u2 (-2147483648) 2147483647) (u3 : Int32) (hu3 : iv u3 (-2147483648) 2147483647) (u4 : Int32) (hu4 : iv u4 (-2147483648) 2147483647) (u5 : Int32) (hu5 : iv u5 (-2147483648) 2147483647) (u6 : Int32) (hu6 : iv u6 (-2147483648) 2147483647) (gq rq mq : Nat) (hgq : τ gq = 20) (kq2 : atp f u0 (fd 2 (.ref gq))) (hGJ : GJ τ f gq rq mq) : mI l yX10_equation cX10_equation 8 (.int) rm_s_X10_equation D G b0 f [.ref u0, .int u1, .int u2, .int u3, .int u4, .int u5, .int u6] (fun r f1 => (∃ τ1, Ex τ τ1 ∧ iv r (-2147483648) 2147483647 ∧ TI G 9 τ1 f1 ∧ Fr [0, 1, 3, 20, 21, 22, 23, 24, 25, 40, 41, 42, 45, 47, 48, 1004, 20001, 20002, 20007, 20008, 20009, 20010, 20011, 22001, 22002, 22003, 22004, 23001, 23002, 23003, 23004, 40002, 40003, 40004, 45004] τ f f1 ∧ GJ τ1 f1 gq rq mq)) := by
  refine met2 (own := RX10) (by decide) rfl (Nat.le_of_ble_eq_true rfl) ?_
  intro p e s m args below meth c ls Q hQ C hr hini hl h
  have hl : lv_has ls 8 [(0, .ref u0), (1, .int u1), (2, .int u2), (3, .int u3), (4, .int u4), (5, .int u5), (6, .int u6)] := hl
  obtain ⟨hx, hb, hml, hown, hts, hE0, hlk⟩ := id C
  have o := Fr.rf [0, 1, 3, 20, 21, 22, 23, 24, 25, 40, 41, 42, 45, 47, 48, 1004, 20001, 20002, 20007, 20008, 20009, 20010, 20011, 22001, 22002, 22003, 22004, 23001, 23002, 23003, 23004, 40002, 40003, 40004, 45004] τ f
  obtain ⟨gu, hgu, kgu⟩ := t_fref (tq := 45) (k := 6) t hu0 (by decide) wf_10 rfl
  refine lv_aload_n hx hb dX10_equation_0 rfl (lv_at hl 0 rfl) ?_
  refine lv_iload_n hx hb dX10_equation_1 rfl (lv_at hl 1 rfl) ?_
  refine lv_iload_n hx hb dX10_equation_2 rfl (lv_at hl 2 rfl) ?_
  refine lv_iconst (v := 1) hx hb dX10_equation_3 (by decide) ?_
  refine lv_iload_n hx hb dX10_equation_4 rfl (lv_at hl 3 rfl) ?_
  refine lv_iload hx hb dX10_equation_5 (lv_at hl 4 rfl) ?_
  obtain ⟨_, ra_1⟩ := t_rec t hu0 (by decide) wf_10
  refine k_i (r_V C h hl (As := [.int u1, .int u2, .int 1, .int u3, .int u4]) (rest := []) (s_X10_readiesb l D G b0 τ f t u0 hu0 u1 hu1 u2 hu2 1 (iv_w (iv_k (x := 1) (k := 1) rfl) (by decide)) u3 hu3 u4 hu4 gu hgu kgu gq rq mq hgq kq2 hGJ) ra_1 (Cn := RX10) (T := TX10) (N := 10) rfl rfl mk_X10_readies w_1026 w_1028 w_27 w_1029 ⟨Nat.le_of_ble_eq_true rfl, Nat.le_of_ble_eq_true rfl⟩ rfl (Nat.le_of_ble_eq_true rfl) ⟨Nat.le_of_ble_eq_true rfl, Nat.le_of_ble_eq_true rfl⟩ rfl dX10_equation_7) h (fun ra_2 fa_3 H locs pa_4 h => ?_)
  have na_5 : (1 : Int32).toInt = 1 := rfl
  obtain ⟨τfa_3, exfa_3, ira_2, tfa_3, ogfa_3, cnra_2, gjfa_3⟩ := pa_4
  have ofa_3 : Fr [0, 1, 3, 20, 21, 22, 23, 24, 25, 40, 41, 42, 45, 47, 48, 1004, 20001, 20002, 20007, 20008, 20009, 20010, 20011, 22001, 22002, 22003, 22004, 23001, 23002, 23003, 23004, 40002, 40003, 40004, 45004] τ f fa_3 := Fr.tr o ogfa_3 (by decide) (by decide)
  have ka_6 := atp.fr kq2 ogfa_3 hu0 (by decide)
  have ka_7 := atp.fr kgu ogfa_3 hu0 (by decide)
  have Ofa_3 : Fr [0, 1, 3, 20, 21, 22, 23, 24, 25, 40, 41, 42, 45, 47, 48, 1004, 20001, 20002, 20007, 20008, 20009, 20010, 20011, 22001, 22002, 22003, 22004, 23001, 23002, 23003, 23004, 40002, 40003, 40004, 45004] τ f fa_3 := ofa_3
  have xfa_3 : Ex τ τfa_3 := exfa_3
  have ha_8 : τfa_3 u0 = 10 := Ex.at exfa_3 hu0 (by decide)
  have ha_9 : τfa_3 gq = 20 := Ex.at exfa_3 hgq (by decide)
  have ha_10 : τfa_3 gu = 45 := Ex.at exfa_3 hgu (by decide)
  have ofa_3z := Fr.rf [0, 1, 3, 20, 21, 22, 23, 24, 25, 40, 41, 42, 45, 47, 48, 1004, 20001, 20002, 20007, 20008, 20009, 20010, 20011, 22001, 22002, 22003, 22004, 23001, 23002, 23003, 23004, 40002, 40003, 40004, 45004] τfa_3 fa_3
  refine lv_istore (lv' := [(7, .int ra_2), (0, .ref u0), (1, .int u1), (2, .int u2), (3, .int u3), (4, .int u4), (5, .int u5), (6, .int u6)]) hx hb dX10_equation_10 hl (by decide) rfl (fun ls hl => ?_)
  refine lv_iload hx hb dX10_equation_12 (lv_at hl 0 rfl) ?_
  refine lv_if_eq (tgt := 55) hx hb dX10_equation_14 (by decide) (fun ca_11 => ?_) (fun ca_11 => ?_)
  · have ca_12 : ra_2.toInt = 0 := congrArg Int32.toInt ca_11
    have ia_13 : iv ra_2 0 0 := iv_Q ca_12 ira_2 (iv_k (x := 0) (k := 0) rfl) (by decide)
    refine lv_ldc (v := -1000000) hx hb hown (hts _ w_772) dX10_equation_55 ?_
    exact u_iret C h hr hQ (⟨τfa_3, xfa_3, ⟨by decide, by decide⟩, tfa_3, (Fr.tr Ofa_3 (Fr.cv xfa_3 ofa_3z (by decide) (fun _ h_ => h_)) (fun _ h_ => h_) (fun _ h_ => h_)), gjfa_3⟩) (Nat.le_of_ble_eq_true rfl) (Nat.le_of_ble_eq_true rfl) dX10_equation_57
  · have ca_12 : ra_2.toInt ≠ 0 := fun z_ => ca_11 (Int32.toInt_inj.mp z_)
    have ia_13 : iv ra_2 1 1 := iv_Nl ca_12 ira_2 (by decide)
    obtain ⟨ia_14, ia_15, ia_16⟩ := cnra_2 ca_12
    obtain ⟨za_17, kza_17, iza_17⟩ := ia_16
    refine lv_iload hx hb dX10_equation_17 (lv_at hl 6 rfl) ?_
    refine lv_iconst (v := 0) hx hb dX10_equation_19 (by decide) ?_
    refine lv_iload_n hx hb dX10_equation_20 rfl (lv_at hl 4 rfl) ?_
    refine k_i (r_S C h hl (As := [.int u5, .int 0, .int u3]) (rest := []) (s_X10_within l D G b0 τfa_3 fa_3 tfa_3 u5 hu5 0 (iv_w (iv_k (x := 0) (k := 0) rfl) (by decide)) u3 (iv_w ia_14 (by decide))) mk_X10_within w_425 w_426 w_427 ⟨Nat.le_of_ble_eq_true rfl, Nat.le_of_ble_eq_true rfl⟩ rfl (Nat.le_of_ble_eq_true rfl) ⟨Nat.le_of_ble_eq_true rfl, Nat.le_of_ble_eq_true rfl⟩ rfl dX10_equation_21) h (fun ra_18 fa_19 H locs pa_20 h => ?_)
    have na_21 : (0 : Int32).toInt = 0 := rfl
    obtain ⟨ira_18, tfa_19, ogfa_19, cnra_18, czra_18⟩ := pa_20
    have egfa_19 := Fr.nil2 ogfa_19
    subst egfa_19
    refine lv_if_eq (tgt := 55) hx hb dX10_equation_24 (by decide) (fun ca_22 => ?_) (fun ca_22 => ?_)
    · have ca_23 : ra_18.toInt = 0 := congrArg Int32.toInt ca_22
      have ia_24 : iv ra_18 0 0 := iv_Q ca_23 ira_18 (iv_k (x := 0) (k := 0) rfl) (by decide)
      have ia_25 := czra_18 ca_23
      refine lv_ldc (v := -1000000) hx hb hown (hts _ w_772) dX10_equation_55 ?_
      exact u_iret C h hr hQ (⟨τfa_3, xfa_3, ⟨by decide, by decide⟩, tfa_3, (Fr.tr Ofa_3 (Fr.cv xfa_3 ofa_3z (by decide) (fun _ h_ => h_)) (fun _ h_ => h_) (fun _ h_ => h_)), gjfa_3⟩) (Nat.le_of_ble_eq_true rfl) (Nat.le_of_ble_eq_true rfl) dX10_equation_57
    · have ca_23 : ra_18.toInt ≠ 0 := fun z_ => ca_22 (Int32.toInt_inj.mp z_)
      have ia_24 : iv ra_18 1 1 := iv_Nl ca_23 ira_18 (by decide)
      obtain ⟨ia_25, ia_26⟩ := cnra_18 ca_23
      have ia_27 : iv u5 0 3 := ⟨by omega, by omega⟩
      refine lv_iload hx hb dX10_equation_27 (lv_at hl 7 rfl) ?_
      refine lv_iconst (v := 0) hx hb dX10_equation_29 (by decide) ?_
      refine lv_iload hx hb dX10_equation_30 (lv_at hl 5 rfl) ?_
      refine k_i (r_S C h hl (As := [.int u6, .int 0, .int u4]) (rest := []) (s_X10_within l D G b0 τfa_3 fa_3 tfa_3 u6 hu6 0 (iv_w (iv_k (x := 0) (k := 0) rfl) (by decide)) u4 (iv_w ia_15 (by decide))) mk_X10_within w_425 w_426 w_427 ⟨Nat.le_of_ble_eq_true rfl, Nat.le_of_ble_eq_true rfl⟩ rfl (Nat.le_of_ble_eq_true rfl) ⟨Nat.le_of_ble_eq_true rfl, Nat.le_of_ble_eq_true rfl⟩ rfl dX10_equation_32) h (fun ra_28 fa_29 H locs pa_30 h => ?_)
      have na_31 : (0 : Int32).toInt = 0 := rfl
      obtain ⟨ira_28, tfa_29, ogfa_29, cnra_28, czra_28⟩ := pa_30
      have egfa_29 := Fr.nil2 ogfa_29
      subst egfa_29
      refine lv_if_eq (tgt := 55) hx hb dX10_equation_35 (by decide) (fun ca_32 => ?_) (fun ca_32 => ?_)
      · have ca_33 : ra_28.toInt = 0 := congrArg Int32.toInt ca_32
        have ia_34 : iv ra_28 0 0 := iv_Q ca_33 ira_28 (iv_k (x := 0) (k := 0) rfl) (by decide)
        have ia_35 := czra_28 ca_33
        refine lv_ldc (v := -1000000) hx hb hown (hts _ w_772) dX10_equation_55 ?_
        exact u_iret C h hr hQ (⟨τfa_3, xfa_3, ⟨by decide, by decide⟩, tfa_3, (Fr.tr Ofa_3 (Fr.cv xfa_3 ofa_3z (by decide) (fun _ h_ => h_)) (fun _ h_ => h_) (fun _ h_ => h_)), gjfa_3⟩) (Nat.le_of_ble_eq_true rfl) (Nat.le_of_ble_eq_true rfl) dX10_equation_57
      · have ca_33 : ra_28.toInt ≠ 0 := fun z_ => ca_32 (Int32.toInt_inj.mp z_)
        have ia_34 : iv ra_28 1 1 := iv_Nl ca_33 ira_28 (by decide)
        obtain ⟨ia_35, ia_36⟩ := cnra_28 ca_33
        have ia_37 : iv u6 0 6 := ⟨by omega, by omega⟩
        refine lv_aload_n hx hb dX10_equation_38 rfl (lv_at hl 1 rfl) ?_
        refine t_getfd C h tfa_3 ha_8 (by decide) wf_10 (v := .ref gu) ka_7 fl_X10_56 dX10_equation_39 ?_
        refine lv_iload_n hx hb dX10_equation_42 rfl (lv_at hl 4 rfl) ?_
        refine lv_iload hx hb dX10_equation_43 (lv_at hl 5 rfl) ?_
        refine lv_iload hx hb dX10_equation_45 (lv_at hl 6 rfl) ?_
        refine lv_iload hx hb dX10_equation_47 (lv_at hl 7 rfl) ?_
        obtain ⟨_, ra_38⟩ := t_rec tfa_3 ha_10 (by decide) wf_45
        refine k_i (r_V C h hl (As := [.int u3, .int u4, .int u5, .int u6]) (rest := []) (s_X3_coefficientb l D G b0 τfa_3 fa_3 tfa_3 gu ha_10 u3 ia_14 u4 ia_15 u5 (iv_w ia_27 (by decide)) u6 (iv_w ia_37 (by decide)) za_17 iza_17 kza_17) ra_38 (Cn := RX3) (T := TX3) (N := 4) rfl rfl mk_X3_coefficient w_1044 w_1045 w_1046 w_1047 ⟨Nat.le_of_ble_eq_true rfl, Nat.le_of_ble_eq_true rfl⟩ rfl (Nat.le_of_ble_eq_true rfl) ⟨Nat.le_of_ble_eq_true rfl, Nat.le_of_ble_eq_true rfl⟩ rfl dX10_equation_49) h (fun ra_39 fa_40 H locs pa_41 h => ?_)
        obtain ⟨ira_39, tfa_40, ogfa_40⟩ := pa_41
        have ofa_40 : Fr [0, 1, 3, 20, 21, 22, 23, 24, 25, 40, 41, 42, 45, 47, 48, 1004, 20001, 20002, 20007, 20008, 20009, 20010, 20011, 22001, 22002, 22003, 22004, 23001, 23002, 23003, 23004, 40002, 40003, 40004, 45004] τfa_3 fa_3 fa_40 := Fr.tr ofa_3z ogfa_40 (by decide) (by decide)
        have ka_42 := atp.fr ka_6 ogfa_40 ha_8 (by decide)
        have ka_43 := atp.fr ka_7 ogfa_40 ha_8 (by decide)
        have ka_44 := GJ.fr gjfa_3 ogfa_40 ha_9 (by decide)
        have ka_45 := atp.fr kza_17 ogfa_40 ha_10 (by decide)
        refine lv_goto (tgt := 57) hx hb dX10_equation_52 (by decide) ?_
        exact u_iret C h hr hQ (⟨τfa_3, xfa_3, ira_39, tfa_40, (Fr.tr Ofa_3 (Fr.cv xfa_3 ofa_40 (by decide) (fun _ h_ => h_)) (fun _ h_ => h_) (fun _ h_ => h_)), ka_44⟩) (Nat.le_of_ble_eq_true rfl) (Nat.le_of_ble_eq_true rfl) dX10_equation_57
abbrev rm_s_X10_breaks : Room := { frames := 7, cells := 1, slots := 305, locals := 158 }
set_option maxRecDepth 100000 in
set_option maxHeartbeats 4000000 in
theorem s_X10_breaks (l : Launch) (D : va_G) (G : Nat → Nat) (b0 : Nat) (τ : Nat → Nat) (f : hM) (t : TI G 9 τ f) (u0 : Nat) (hu0 : τ u0 = 10) (u1 : Int32) (hu1 : iv u1 (-2147483648) 2147483647) (u2 : Int32) (hu2 : iv u2 (-2147483648) 2147483647) (u3 : Int32) (hu3 : iv u3 (-2147483648) 2147483647) (u4 : Int32) (hu4 : iv u4 (-2147483648) 2147483647) (gq rq mq : Nat) (hgq : τ gq = 20) (kq2 : atp f u0 (fd 2 (.ref gq))) (hGJ : GJ τ f gq rq mq) : mI l yX10_breaks cX10_breaks 5 (.int) rm_s_X10_breaks D G b0 f [.ref u0, .int u1, .int u2, .int u3, .int u4] (fun r f1 => (∃ τ1, Ex τ τ1 ∧ iv r (-1000000) 60 ∧ TI G 9 τ1 f1 ∧ Fr [0, 1, 3, 20, 21, 22, 23, 24, 25, 40, 41, 42, 45, 47, 48, 1004, 20001, 20002, 20007, 20008, 20009, 20010, 20011, 22001, 22002, 22003, 22004, 23001, 23002, 23003, 23004, 40002, 40003, 40004, 45004] τ f f1 ∧ GJ τ1 f1 gq rq mq)) := by
  refine met2 (own := RX10) (by decide) rfl (Nat.le_of_ble_eq_true rfl) ?_
  intro p e s m args below meth c ls Q hQ C hr hini hl h
  have hl : lv_has ls 5 [(0, .ref u0), (1, .int u1), (2, .int u2), (3, .int u3), (4, .int u4)] := hl
  obtain ⟨hx, hb, hml, hown, hts, hE0, hlk⟩ := id C
  have o := Fr.rf [0, 1, 3, 20, 21, 22, 23, 24, 25, 40, 41, 42, 45, 47, 48, 1004, 20001, 20002, 20007, 20008, 20009, 20010, 20011, 22001, 22002, 22003, 22004, 23001, 23002, 23003, 23004, 40002, 40003, 40004, 45004] τ f
  obtain ⟨gu, hgu, kgu⟩ := t_fref (tq := 45) (k := 6) t hu0 (by decide) wf_10 rfl
  refine lv_aload_n hx hb dX10_breaks_0 rfl (lv_at hl 0 rfl) ?_
  refine lv_iload_n hx hb dX10_breaks_1 rfl (lv_at hl 1 rfl) ?_
  refine lv_iload_n hx hb dX10_breaks_2 rfl (lv_at hl 2 rfl) ?_
  refine lv_iconst (v := 1) hx hb dX10_breaks_3 (by decide) ?_
  refine lv_iload_n hx hb dX10_breaks_4 rfl (lv_at hl 3 rfl) ?_
  refine lv_iload hx hb dX10_breaks_5 (lv_at hl 4 rfl) ?_
  obtain ⟨_, ra_1⟩ := t_rec t hu0 (by decide) wf_10
  refine k_i (r_V C h hl (As := [.int u1, .int u2, .int 1, .int u3, .int u4]) (rest := []) (s_X10_readiesb l D G b0 τ f t u0 hu0 u1 hu1 u2 hu2 1 (iv_w (iv_k (x := 1) (k := 1) rfl) (by decide)) u3 hu3 u4 hu4 gu hgu kgu gq rq mq hgq kq2 hGJ) ra_1 (Cn := RX10) (T := TX10) (N := 10) rfl rfl mk_X10_readies w_1026 w_1028 w_27 w_1029 ⟨Nat.le_of_ble_eq_true rfl, Nat.le_of_ble_eq_true rfl⟩ rfl (Nat.le_of_ble_eq_true rfl) ⟨Nat.le_of_ble_eq_true rfl, Nat.le_of_ble_eq_true rfl⟩ rfl dX10_breaks_7) h (fun ra_2 fa_3 H locs pa_4 h => ?_)
  have na_5 : (1 : Int32).toInt = 1 := rfl
  obtain ⟨τfa_3, exfa_3, ira_2, tfa_3, ogfa_3, cnra_2, gjfa_3⟩ := pa_4
  have ofa_3 : Fr [0, 1, 3, 20, 21, 22, 23, 24, 25, 40, 41, 42, 45, 47, 48, 1004, 20001, 20002, 20007, 20008, 20009, 20010, 20011, 22001, 22002, 22003, 22004, 23001, 23002, 23003, 23004, 40002, 40003, 40004, 45004] τ f fa_3 := Fr.tr o ogfa_3 (by decide) (by decide)
  have ka_6 := atp.fr kq2 ogfa_3 hu0 (by decide)
  have ka_7 := atp.fr kgu ogfa_3 hu0 (by decide)
  have Ofa_3 : Fr [0, 1, 3, 20, 21, 22, 23, 24, 25, 40, 41, 42, 45, 47, 48, 1004, 20001, 20002, 20007, 20008, 20009, 20010, 20011, 22001, 22002, 22003, 22004, 23001, 23002, 23003, 23004, 40002, 40003, 40004, 45004] τ f fa_3 := ofa_3
  have xfa_3 : Ex τ τfa_3 := exfa_3
  have ha_8 : τfa_3 u0 = 10 := Ex.at exfa_3 hu0 (by decide)
  have ha_9 : τfa_3 gq = 20 := Ex.at exfa_3 hgq (by decide)
  have ha_10 : τfa_3 gu = 45 := Ex.at exfa_3 hgu (by decide)
  have ofa_3z := Fr.rf [0, 1, 3, 20, 21, 22, 23, 24, 25, 40, 41, 42, 45, 47, 48, 1004, 20001, 20002, 20007, 20008, 20009, 20010, 20011, 22001, 22002, 22003, 22004, 23001, 23002, 23003, 23004, 40002, 40003, 40004, 45004] τfa_3 fa_3
  refine lv_if_eq (tgt := 26) hx hb dX10_breaks_10 (by decide) (fun ca_11 => ?_) (fun ca_11 => ?_)
  · have ca_12 : ra_2.toInt = 0 := congrArg Int32.toInt ca_11
    have ia_13 : iv ra_2 0 0 := iv_Q ca_12 ira_2 (iv_k (x := 0) (k := 0) rfl) (by decide)
    refine lv_ldc (v := -1000000) hx hb hown (hts _ w_772) dX10_breaks_26 ?_
    exact u_iret C h hr hQ (⟨τfa_3, xfa_3, ⟨by decide, by decide⟩, tfa_3, (Fr.tr Ofa_3 (Fr.cv xfa_3 ofa_3z (by decide) (fun _ h_ => h_)) (fun _ h_ => h_) (fun _ h_ => h_)), gjfa_3⟩) (Nat.le_of_ble_eq_true rfl) (Nat.le_of_ble_eq_true rfl) dX10_breaks_28
  · have ca_12 : ra_2.toInt ≠ 0 := fun z_ => ca_11 (Int32.toInt_inj.mp z_)
    have ia_13 : iv ra_2 1 1 := iv_Nl ca_12 ira_2 (by decide)
    obtain ⟨ia_14, ia_15, ia_16⟩ := cnra_2 ca_12
    obtain ⟨za_17, kza_17, iza_17⟩ := ia_16
    refine lv_aload_n hx hb dX10_breaks_13 rfl (lv_at hl 0 rfl) ?_
    refine t_getfd C h tfa_3 ha_8 (by decide) wf_10 (v := .ref gu) ka_7 fl_X10_56 dX10_breaks_14 ?_
    refine lv_iload_n hx hb dX10_breaks_17 rfl (lv_at hl 3 rfl) ?_
    refine lv_iload hx hb dX10_breaks_18 (lv_at hl 4 rfl) ?_
    obtain ⟨_, ra_18⟩ := t_rec tfa_3 ha_10 (by decide) wf_45
    refine k_i (r_V C h hl (As := [.int u3, .int u4]) (rest := []) (s_X3_failingb l D G b0 τfa_3 fa_3 tfa_3 gu ha_10 u3 ia_14 u4 ia_15 za_17 iza_17 kza_17) ra_18 (Cn := RX3) (T := TX3) (N := 4) rfl rfl mk_X3_failing w_1071 w_1072 w_1073 w_1074 ⟨Nat.le_of_ble_eq_true rfl, Nat.le_of_ble_eq_true rfl⟩ rfl (Nat.le_of_ble_eq_true rfl) ⟨Nat.le_of_ble_eq_true rfl, Nat.le_of_ble_eq_true rfl⟩ rfl dX10_breaks_20) h (fun ra_19 fa_20 H locs pa_21 h => ?_)
    obtain ⟨ira_19, tfa_20, ogfa_20⟩ := pa_21
    have ofa_20 : Fr [0, 1, 3, 20, 21, 22, 23, 24, 25, 40, 41, 42, 45, 47, 48, 1004, 20001, 20002, 20007, 20008, 20009, 20010, 20011, 22001, 22002, 22003, 22004, 23001, 23002, 23003, 23004, 40002, 40003, 40004, 45004] τfa_3 fa_3 fa_20 := Fr.tr ofa_3z ogfa_20 (by decide) (by decide)
    have ka_22 := atp.fr ka_6 ogfa_20 ha_8 (by decide)
    have ka_23 := atp.fr ka_7 ogfa_20 ha_8 (by decide)
    have ka_24 := GJ.fr gjfa_3 ogfa_20 ha_9 (by decide)
    have ka_25 := atp.fr kza_17 ogfa_20 ha_10 (by decide)
    refine lv_goto (tgt := 28) hx hb dX10_breaks_23 (by decide) ?_
    exact u_iret C h hr hQ (⟨τfa_3, xfa_3, (iv_w ira_19 (by decide)), tfa_20, (Fr.tr Ofa_3 (Fr.cv xfa_3 ofa_20 (by decide) (fun _ h_ => h_)) (fun _ h_ => h_) (fun _ h_ => h_)), ka_24⟩) (Nat.le_of_ble_eq_true rfl) (Nat.le_of_ble_eq_true rfl) dX10_breaks_28
