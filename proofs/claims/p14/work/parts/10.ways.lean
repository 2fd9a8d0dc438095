theorem dX9_cell_0 : decode cX9_cell 0 = .ok (.iload_n 1, 1) := by decide +kernel
theorem dX9_cell_1 : decode cX9_cell 1 = .ok (.aload_n 0, 1) := by decide +kernel
theorem dX9_cell_2 : decode cX9_cell 2 = .ok (.getfield 34, 3) := by decide +kernel
theorem w_282 : Cond.laysFinal "QuarterWalks$Ways" "QuarterWalks$Ways" "onward" "[[I" ∈ wAll := wI1 187 (by decide +kernel) (by decide +kernel)
theorem w_284 : Cond.lays "QuarterWalks$Ways" "QuarterWalks$Ways" "steps" "I" ∈ wAll := wI1 189 (by decide +kernel) (by decide +kernel)
theorem w_286 : Cond.lays "QuarterWalks$Ways" "QuarterWalks$Ways" "startX" "I" ∈ wAll := wI1 191 (by decide +kernel) (by decide +kernel)
theorem w_288 : Cond.lays "QuarterWalks$Ways" "QuarterWalks$Ways" "startY" "I" ∈ wAll := wI1 193 (by decide +kernel) (by decide +kernel)
theorem inA_X9 : ∀ w ∈ u_ws RX9 TX9 4, w ∈ wAll := List.forall_mem_cons.mpr ⟨w_282, List.forall_mem_cons.mpr ⟨w_284, List.forall_mem_cons.mpr ⟨w_286, List.forall_mem_cons.mpr ⟨w_288, fun _ h => absurd h List.not_mem_nil⟩⟩⟩⟩
theorem w_280 : Cond.fieldLink "QuarterWalks$Ways" 34 "QuarterWalks$Ways" "startX" "I" ∈ wAll := wI1 185 (by decide +kernel) (by decide +kernel)
theorem fl_X9_34 : fl RX9 34 10 2 := ⟨RX9, TX9, 4, rfl, inA_X9, by decide, w_280⟩
theorem dX9_cell_5 : decode cX9_cell 5 = .ok (.isub, 1) := by decide +kernel
theorem dX9_cell_6 : decode cX9_cell 6 = .ok (.bipush 10, 2) := by decide +kernel
theorem dX9_cell_8 : decode cX9_cell 8 = .ok (.iadd, 1) := by decide +kernel
theorem dX9_cell_9 : decode cX9_cell 9 = .ok (.bipush 21, 2) := by decide +kernel
theorem dX9_cell_11 : decode cX9_cell 11 = .ok (.imul, 1) := by decide +kernel
theorem dX9_cell_12 : decode cX9_cell 12 = .ok (.iload_n 2, 1) := by decide +kernel
theorem dX9_cell_13 : decode cX9_cell 13 = .ok (.iadd, 1) := by decide +kernel
theorem dX9_cell_14 : decode cX9_cell 14 = .ok (.aload_n 0, 1) := by decide +kernel
theorem dX9_cell_15 : decode cX9_cell 15 = .ok (.getfield 38, 3) := by decide +kernel
theorem w_281 : Cond.fieldLink "QuarterWalks$Ways" 38 "QuarterWalks$Ways" "startY" "I" ∈ wAll := wI1 186 (by decide +kernel) (by decide +kernel)
theorem fl_X9_38 : fl RX9 38 10 3 := ⟨RX9, TX9, 4, rfl, inA_X9, by decide, w_281⟩
theorem dX9_cell_18 : decode cX9_cell 18 = .ok (.isub, 1) := by decide +kernel
theorem dX9_cell_19 : decode cX9_cell 19 = .ok (.bipush 10, 2) := by decide +kernel
theorem dX9_cell_21 : decode cX9_cell 21 = .ok (.iadd, 1) := by decide +kernel
theorem dX9_cell_22 : decode cX9_cell 22 = .ok (.ireturn, 1) := by decide +kernel
theorem dX9_ways_0 : decode cX9_ways 0 = .ok (.iload_n 2, 1) := by decide +kernel
theorem dX9_ways_1 : decode cX9_ways 1 = .ok (.aload_n 0, 1) := by decide +kernel
theorem dX9_ways_2 : decode cX9_ways 2 = .ok (.getfield 34, 3) := by decide +kernel
theorem dX9_ways_5 : decode cX9_ways 5 = .ok (.isub, 1) := by decide +kernel
theorem dX9_ways_6 : decode cX9_ways 6 = .ok (.bipush (-10), 2) := by decide +kernel
theorem dX9_ways_8 : decode cX9_ways 8 = .ok (.bipush 10, 2) := by decide +kernel
theorem dX9_ways_10 : decode cX9_ways 10 = .ok (.invokestatic 60, 3) := by decide +kernel
theorem dX9_ways_13 : decode cX9_ways 13 = .ok (.ifCond .eq 23, 3) := by decide +kernel
theorem dX9_ways_36 : decode cX9_ways 36 = .ok (.iconst 0, 1) := by decide +kernel
theorem dX9_ways_37 : decode cX9_ways 37 = .ok (.istore 4, 2) := by decide +kernel
theorem dX9_ways_39 : decode cX9_ways 39 = .ok (.iload 4, 2) := by decide +kernel
theorem dX9_ways_41 : decode cX9_ways 41 = .ok (.ifCond .eq 37, 3) := by decide +kernel
theorem dX9_ways_78 : decode cX9_ways 78 = .ok (.iconst 0, 1) := by decide +kernel
theorem dX9_ways_16 : decode cX9_ways 16 = .ok (.iload_n 3, 1) := by decide +kernel
theorem dX9_ways_17 : decode cX9_ways 17 = .ok (.aload_n 0, 1) := by decide +kernel
theorem dX9_ways_18 : decode cX9_ways 18 = .ok (.getfield 38, 3) := by decide +kernel
theorem dX9_ways_21 : decode cX9_ways 21 = .ok (.isub, 1) := by decide +kernel
theorem dX9_ways_22 : decode cX9_ways 22 = .ok (.bipush (-10), 2) := by decide +kernel
theorem dX9_ways_24 : decode cX9_ways 24 = .ok (.bipush 10, 2) := by decide +kernel
theorem dX9_ways_26 : decode cX9_ways 26 = .ok (.invokestatic 60, 3) := by decide +kernel
theorem dX9_ways_29 : decode cX9_ways 29 = .ok (.ifCond .eq 7, 3) := by decide +kernel
theorem dX9_ways_32 : decode cX9_ways 32 = .ok (.iconst 1, 1) := by decide +kernel
theorem dX9_ways_33 : decode cX9_ways 33 = .ok (.goto 4, 3) := by decide +kernel
theorem dX9_ways_44 : decode cX9_ways 44 = .ok (.iload_n 2, 1) := by decide +kernel
theorem dX9_ways_45 : decode cX9_ways 45 = .ok (.ifCond .lt 33, 3) := by decide +kernel
theorem dX9_ways_48 : decode cX9_ways 48 = .ok (.iload_n 3, 1) := by decide +kernel
theorem dX9_ways_49 : decode cX9_ways 49 = .ok (.ifCond .lt 29, 3) := by decide +kernel
theorem dX9_ways_52 : decode cX9_ways 52 = .ok (.iload_n 1, 1) := by decide +kernel
theorem dX9_ways_53 : decode cX9_ways 53 = .ok (.iconst 0, 1) := by decide +kernel
theorem dX9_ways_54 : decode cX9_ways 54 = .ok (.bipush 10, 2) := by decide +kernel
theorem dX9_ways_56 : decode cX9_ways 56 = .ok (.invokestatic 60, 3) := by decide +kernel
theorem dX9_ways_59 : decode cX9_ways 59 = .ok (.ifCond .eq 19, 3) := by decide +kernel
theorem dX9_ways_62 : decode cX9_ways 62 = .ok (.aload_n 0, 1) := by decide +kernel
theorem dX9_ways_63 : decode cX9_ways 63 = .ok (.getfield 13, 3) := by decide +kernel
theorem w_278 : Cond.fieldLink "QuarterWalks$Ways" 13 "QuarterWalks$Ways" "onward" "[[I" ∈ wAll := wI1 183 (by decide +kernel) (by decide +kernel)
theorem fl_X9_13 : fl RX9 13 10 0 := ⟨RX9, TX9, 4, rfl, inA_X9, by decide, w_278⟩
theorem dX9_ways_66 : decode cX9_ways 66 = .ok (.iload_n 1, 1) := by decide +kernel
theorem dX9_ways_67 : decode cX9_ways 67 = .ok (.aaload, 1) := by decide +kernel
theorem dX9_ways_68 : decode cX9_ways 68 = .ok (.aload_n 0, 1) := by decide +kernel
theorem dX9_ways_69 : decode cX9_ways 69 = .ok (.iload_n 2, 1) := by decide +kernel
theorem dX9_ways_70 : decode cX9_ways 70 = .ok (.iload_n 3, 1) := by decide +kernel
theorem dX9_ways_71 : decode cX9_ways 71 = .ok (.invokevirtual 39, 3) := by decide +kernel
theorem w_870 : Cond.methodLink "QuarterWalks$Ways" 39 yX9_cell ∈ wAll := wI4 55 (by decide +kernel) (by decide +kernel)
theorem w_23 : Cond.selects yX9_cell.cls yX9_cell yX9_cell ∈ wAll := wIn 23 (by decide +kernel) (by decide +kernel)
theorem w_102 : Cond.initialized "QuarterWalks$Ways" ∈ wAll := wI1 7 (by decide +kernel) (by decide +kernel)
theorem mk_X9_cell : mk yX9_cell 2 := ⟨by decide +kernel, w_102⟩
theorem w_872 : Cond.instanceMethod yX9_cell ∈ wAll := wI4 57 (by decide +kernel) (by decide +kernel)
theorem w_873 : Cond.code yX9_cell cX9_cell 3 (some .int) ∈ wAll := wI4 58 (by decide +kernel) (by decide +kernel)
theorem dX9_ways_74 : decode cX9_ways 74 = .ok (.iaload, 1) := by decide +kernel
theorem dX9_ways_75 : decode cX9_ways 75 = .ok (.goto 4, 3) := by decide +kernel
theorem dX9_ways_79 : decode cX9_ways 79 = .ok (.ireturn, 1) := by decide +kernel
theorem dX9_waysOn_0 : decode cX9_waysOn 0 = .ok (.iconst 0, 1) := by decide +kernel
theorem dX9_waysOn_1 : decode cX9_waysOn 1 = .ok (.istore 5, 2) := by decide +kernel
theorem dX9_waysOn_3 : decode cX9_waysOn 3 = .ok (.iconst 0, 1) := by decide +kernel
theorem dX9_waysOn_4 : decode cX9_waysOn 4 = .ok (.istore 6, 2) := by decide +kernel
theorem dX9_waysOn_6 : decode cX9_waysOn 6 = .ok (.iload 6, 2) := by decide +kernel
theorem dX9_waysOn_8 : decode cX9_waysOn 8 = .ok (.bipush 8, 2) := by decide +kernel
theorem dX9_waysOn_10 : decode cX9_waysOn 10 = .ok (.if_icmp .ge 48, 3) := by decide +kernel
theorem dX9_waysOn_13 : decode cX9_waysOn 13 = .ok (.aload_n 1, 1) := by decide +kernel
theorem dX9_waysOn_14 : decode cX9_waysOn 14 = .ok (.getfield 50, 3) := by decide +kernel
theorem w_555 : Cond.fieldLink "QuarterWalks$Ways" 50 "QuarterWalks$StepSet" "weights" "[I" ∈ wAll := wI2 220 (by decide +kernel) (by decide +kernel)
theorem fl_X9_50 : fl RX9 50 7 0 := ⟨RX6, TX6, 4, rfl, inA_X6, by decide, w_555⟩
theorem dX9_waysOn_17 : decode cX9_waysOn 17 = .ok (.iload 6, 2) := by decide +kernel
theorem dX9_waysOn_19 : decode cX9_waysOn 19 = .ok (.iaload, 1) := by decide +kernel
theorem dX9_waysOn_20 : decode cX9_waysOn 20 = .ok (.ifCond .eq 32, 3) := by decide +kernel
theorem dX9_waysOn_52 : decode cX9_waysOn 52 = .ok (.iinc 6 1, 3) := by decide +kernel
theorem dX9_waysOn_55 : decode cX9_waysOn 55 = .ok (.goto (-49), 3) := by decide +kernel
theorem dX9_waysOn_23 : decode cX9_waysOn 23 = .ok (.iload 5, 2) := by decide +kernel
theorem dX9_waysOn_25 : decode cX9_waysOn 25 = .ok (.aload_n 0, 1) := by decide +kernel
theorem dX9_waysOn_26 : decode cX9_waysOn 26 = .ok (.iload_n 2, 1) := by decide +kernel
theorem dX9_waysOn_27 : decode cX9_waysOn 27 = .ok (.iconst 1, 1) := by decide +kernel
theorem dX9_waysOn_28 : decode cX9_waysOn 28 = .ok (.isub, 1) := by decide +kernel
theorem dX9_waysOn_29 : decode cX9_waysOn 29 = .ok (.iload_n 3, 1) := by decide +kernel
theorem dX9_waysOn_30 : decode cX9_waysOn 30 = .ok (.getstatic 54, 3) := by decide +kernel
theorem dX9_waysOn_33 : decode cX9_waysOn 33 = .ok (.iload 6, 2) := by decide +kernel
theorem dX9_waysOn_35 : decode cX9_waysOn 35 = .ok (.iaload, 1) := by decide +kernel
theorem dX9_waysOn_36 : decode cX9_waysOn 36 = .ok (.iadd, 1) := by decide +kernel
theorem dX9_waysOn_37 : decode cX9_waysOn 37 = .ok (.iload 4, 2) := by decide +kernel
theorem dX9_waysOn_39 : decode cX9_waysOn 39 = .ok (.getstatic 57, 3) := by decide +kernel
theorem dX9_waysOn_42 : decode cX9_waysOn 42 = .ok (.iload 6, 2) := by decide +kernel
theorem dX9_waysOn_44 : decode cX9_waysOn 44 = .ok (.iaload, 1) := by decide +kernel
theorem dX9_waysOn_45 : decode cX9_waysOn 45 = .ok (.iadd, 1) := by decide +kernel
theorem dX9_waysOn_46 : decode cX9_waysOn 46 = .ok (.invokevirtual 46, 3) := by decide +kernel
theorem w_880 : Cond.methodLink "QuarterWalks$Ways" 46 yX9_ways ∈ wAll := wI4 65 (by decide +kernel) (by decide +kernel)
theorem w_25 : Cond.selects yX9_ways.cls yX9_ways yX9_ways ∈ wAll := wIn 25 (by decide +kernel) (by decide +kernel)
theorem mk_X9_ways : mk yX9_ways 3 := ⟨by decide +kernel, w_102⟩
theorem w_882 : Cond.instanceMethod yX9_ways ∈ wAll := wI4 67 (by decide +kernel) (by decide +kernel)
theorem w_883 : Cond.code yX9_ways cX9_ways 5 (some .int) ∈ wAll := wI4 68 (by decide +kernel) (by decide +kernel)
theorem dX9_waysOn_49 : decode cX9_waysOn 49 = .ok (.iadd, 1) := by decide +kernel
theorem dX9_waysOn_50 : decode cX9_waysOn 50 = .ok (.istore 5, 2) := by decide +kernel
theorem dX9_waysOn_58 : decode cX9_waysOn 58 = .ok (.iload 5, 2) := by decide +kernel
theorem dX9_waysOn_60 : decode cX9_waysOn 60 = .ok (.ireturn, 1) := by decide +kernel
theorem dX9_lead_0 : decode cX9_lead 0 = .ok (.aload_n 0, 1) := by decide +kernel
theorem dX9_lead_1 : decode cX9_lead 1 = .ok (.iconst 0, 1) := by decide +kernel
theorem dX9_lead_2 : decode cX9_lead 2 = .ok (.iload_n 2, 1) := by decide +kernel
theorem dX9_lead_3 : decode cX9_lead 3 = .ok (.bipush 10, 2) := by decide +kernel
theorem dX9_lead_5 : decode cX9_lead 5 = .ok (.invokestatic 16, 3) := by decide +kernel
theorem w_868 : Cond.methodLink "QuarterWalks$Ways" 16 yJ9_min_7cf53 ∈ wAll := wI4 53 (by decide +kernel) (by decide +kernel)
theorem dX9_lead_8 : decode cX9_lead 8 = .ok (.invokestatic 22, 3) := by decide +kernel
theorem w_869 : Cond.methodLink "QuarterWalks$Ways" 22 yJ9_max_7cf53 ∈ wAll := wI4 54 (by decide +kernel) (by decide +kernel)
theorem dX9_lead_11 : decode cX9_lead 11 = .ok (.putfield 25, 3) := by decide +kernel
theorem w_279 : Cond.fieldLink "QuarterWalks$Ways" 25 "QuarterWalks$Ways" "steps" "I" ∈ wAll := wI1 184 (by decide +kernel) (by decide +kernel)
theorem flw_X9_25 : flw RX9 25 10 1 (.int) := ⟨RX9, TX9, 4, tyX9, rfl, inA_X9, by decide, w_279, tyX9_ok, nmX9, by decide +kernel, Or.inl rfl⟩
theorem dX9_lead_14 : decode cX9_lead 14 = .ok (.aload_n 0, 1) := by decide +kernel
theorem dX9_lead_15 : decode cX9_lead 15 = .ok (.aload_n 1, 1) := by decide +kernel
theorem dX9_lead_16 : decode cX9_lead 16 = .ok (.getfield 29, 3) := by decide +kernel
theorem w_559 : Cond.fieldLink "QuarterWalks$Ways" 29 "QuarterWalks$StepSet" "startX" "I" ∈ wAll := wI2 224 (by decide +kernel) (by decide +kernel)
theorem fl_X9_29 : fl RX9 29 7 1 := ⟨RX6, TX6, 4, rfl, inA_X6, by decide, w_559⟩
theorem dX9_lead_19 : decode cX9_lead 19 = .ok (.putfield 34, 3) := by decide +kernel
theorem flw_X9_34 : flw RX9 34 10 2 (.int) := ⟨RX9, TX9, 4, tyX9, rfl, inA_X9, by decide, w_280, tyX9_ok, nmX9, by decide +kernel, Or.inl rfl⟩
theorem dX9_lead_22 : decode cX9_lead 22 = .ok (.aload_n 0, 1) := by decide +kernel
theorem dX9_lead_23 : decode cX9_lead 23 = .ok (.aload_n 1, 1) := by decide +kernel
theorem dX9_lead_24 : decode cX9_lead 24 = .ok (.getfield 35, 3) := by decide +kernel
theorem w_563 : Cond.fieldLink "QuarterWalks$Ways" 35 "QuarterWalks$StepSet" "startY" "I" ∈ wAll := wI2 228 (by decide +kernel) (by decide +kernel)
theorem fl_X9_35 : fl RX9 35 7 2 := ⟨RX6, TX6, 4, rfl, inA_X6, by decide, w_563⟩
theorem dX9_lead_27 : decode cX9_lead 27 = .ok (.putfield 38, 3) := by decide +kernel
theorem flw_X9_38 : flw RX9 38 10 3 (.int) := ⟨RX9, TX9, 4, tyX9, rfl, inA_X9, by decide, w_281, tyX9_ok, nmX9, by decide +kernel, Or.inl rfl⟩
theorem dX9_lead_30 : decode cX9_lead 30 = .ok (.iconst 0, 1) := by decide +kernel
theorem dX9_lead_31 : decode cX9_lead 31 = .ok (.istore 5, 2) := by decide +kernel
theorem dX9_lead_33 : decode cX9_lead 33 = .ok (.iload 5, 2) := by decide +kernel
theorem dX9_lead_35 : decode cX9_lead 35 = .ok (.aload_n 0, 1) := by decide +kernel
theorem dX9_lead_36 : decode cX9_lead 36 = .ok (.getfield 25, 3) := by decide +kernel
theorem fl_X9_25 : fl RX9 25 10 1 := ⟨RX9, TX9, 4, rfl, inA_X9, by decide, w_279⟩
theorem dX9_lead_39 : decode cX9_lead 39 = .ok (.if_icmp .gt 129, 3) := by decide +kernel
theorem dX9_lead_42 : decode cX9_lead 42 = .ok (.aload_n 0, 1) := by decide +kernel
theorem dX9_lead_43 : decode cX9_lead 43 = .ok (.getfield 25, 3) := by decide +kernel
theorem dX9_lead_46 : decode cX9_lead 46 = .ok (.iload 5, 2) := by decide +kernel
theorem dX9_lead_48 : decode cX9_lead 48 = .ok (.isub, 1) := by decide +kernel
theorem dX9_lead_49 : decode cX9_lead 49 = .ok (.istore 6, 2) := by decide +kernel
theorem dX9_lead_51 : decode cX9_lead 51 = .ok (.aload_n 0, 1) := by decide +kernel
theorem dX9_lead_52 : decode cX9_lead 52 = .ok (.getfield 34, 3) := by decide +kernel
theorem dX9_lead_55 : decode cX9_lead 55 = .ok (.iload 6, 2) := by decide +kernel
theorem dX9_lead_57 : decode cX9_lead 57 = .ok (.isub, 1) := by decide +kernel
theorem dX9_lead_58 : decode cX9_lead 58 = .ok (.istore 7, 2) := by decide +kernel
theorem dX9_lead_60 : decode cX9_lead 60 = .ok (.iload 7, 2) := by decide +kernel
theorem dX9_lead_62 : decode cX9_lead 62 = .ok (.aload_n 0, 1) := by decide +kernel
theorem dX9_lead_63 : decode cX9_lead 63 = .ok (.getfield 34, 3) := by decide +kernel
theorem dX9_lead_66 : decode cX9_lead 66 = .ok (.iload 6, 2) := by decide +kernel
theorem dX9_lead_68 : decode cX9_lead 68 = .ok (.iadd, 1) := by decide +kernel
theorem dX9_lead_69 : decode cX9_lead 69 = .ok (.if_icmp .gt 93, 3) := by decide +kernel
theorem dX9_lead_162 : decode cX9_lead 162 = .ok (.iinc 5 1, 3) := by decide +kernel
theorem dX9_lead_165 : decode cX9_lead 165 = .ok (.goto (-132), 3) := by decide +kernel
theorem dX9_lead_72 : decode cX9_lead 72 = .ok (.aload_n 0, 1) := by decide +kernel
theorem dX9_lead_73 : decode cX9_lead 73 = .ok (.getfield 38, 3) := by decide +kernel
theorem dX9_lead_76 : decode cX9_lead 76 = .ok (.iload 6, 2) := by decide +kernel
theorem dX9_lead_78 : decode cX9_lead 78 = .ok (.isub, 1) := by decide +kernel
theorem dX9_lead_79 : decode cX9_lead 79 = .ok (.istore 8, 2) := by decide +kernel
theorem dX9_lead_168 : decode cX9_lead 168 = .ok (.aload_n 0, 1) := by decide +kernel
theorem dX9_lead_169 : decode cX9_lead 169 = .ok (.aload_n 0, 1) := by decide +kernel
theorem dX9_lead_170 : decode cX9_lead 170 = .ok (.getfield 25, 3) := by decide +kernel
theorem dX9_lead_173 : decode cX9_lead 173 = .ok (.aload_n 0, 1) := by decide +kernel
theorem dX9_lead_174 : decode cX9_lead 174 = .ok (.getfield 34, 3) := by decide +kernel
theorem dX9_lead_177 : decode cX9_lead 177 = .ok (.aload_n 0, 1) := by decide +kernel
theorem dX9_lead_178 : decode cX9_lead 178 = .ok (.getfield 38, 3) := by decide +kernel
theorem dX9_lead_181 : decode cX9_lead 181 = .ok (.invokevirtual 46, 3) := by decide +kernel
theorem dX9_lead_81 : decode cX9_lead 81 = .ok (.iload 8, 2) := by decide +kernel
theorem dX9_lead_83 : decode cX9_lead 83 = .ok (.aload_n 0, 1) := by decide +kernel
theorem dX9_lead_84 : decode cX9_lead 84 = .ok (.getfield 38, 3) := by decide +kernel
theorem dX9_lead_87 : decode cX9_lead 87 = .ok (.iload 6, 2) := by decide +kernel
theorem dX9_lead_89 : decode cX9_lead 89 = .ok (.iadd, 1) := by decide +kernel
theorem dX9_lead_90 : decode cX9_lead 90 = .ok (.if_icmp .gt 66, 3) := by decide +kernel
theorem dX9_lead_156 : decode cX9_lead 156 = .ok (.iinc 7 1, 3) := by decide +kernel
theorem dX9_lead_159 : decode cX9_lead 159 = .ok (.goto (-99), 3) := by decide +kernel
theorem dX9_lead_93 : decode cX9_lead 93 = .ok (.iload 7, 2) := by decide +kernel
theorem dX9_lead_95 : decode cX9_lead 95 = .ok (.iload_n 3, 1) := by decide +kernel
theorem dX9_lead_96 : decode cX9_lead 96 = .ok (.if_icmp .ne 14, 3) := by decide +kernel
theorem dX9_lead_110 : decode cX9_lead 110 = .ok (.iconst 0, 1) := by decide +kernel
theorem dX9_lead_111 : decode cX9_lead 111 = .ok (.istore 9, 2) := by decide +kernel
theorem dX9_lead_113 : decode cX9_lead 113 = .ok (.aload_n 0, 1) := by decide +kernel
theorem dX9_lead_114 : decode cX9_lead 114 = .ok (.getfield 13, 3) := by decide +kernel
theorem dX9_lead_117 : decode cX9_lead 117 = .ok (.iload 5, 2) := by decide +kernel
theorem dX9_lead_119 : decode cX9_lead 119 = .ok (.aaload, 1) := by decide +kernel
theorem dX9_lead_120 : decode cX9_lead 120 = .ok (.aload_n 0, 1) := by decide +kernel
theorem dX9_lead_121 : decode cX9_lead 121 = .ok (.iload 7, 2) := by decide +kernel
theorem dX9_lead_123 : decode cX9_lead 123 = .ok (.iload 8, 2) := by decide +kernel
theorem dX9_lead_125 : decode cX9_lead 125 = .ok (.invokevirtual 39, 3) := by decide +kernel
theorem dX9_lead_128 : decode cX9_lead 128 = .ok (.iload 5, 2) := by decide +kernel
theorem dX9_lead_130 : decode cX9_lead 130 = .ok (.ifCond .ne 8, 3) := by decide +kernel
theorem dX9_lead_138 : decode cX9_lead 138 = .ok (.aload_n 0, 1) := by decide +kernel
theorem dX9_lead_139 : decode cX9_lead 139 = .ok (.aload_n 1, 1) := by decide +kernel
theorem dX9_lead_140 : decode cX9_lead 140 = .ok (.iload 5, 2) := by decide +kernel
theorem dX9_lead_142 : decode cX9_lead 142 = .ok (.iload 7, 2) := by decide +kernel
theorem dX9_lead_144 : decode cX9_lead 144 = .ok (.iload 8, 2) := by decide +kernel
theorem dX9_lead_146 : decode cX9_lead 146 = .ok (.invokevirtual 42, 3) := by decide +kernel
theorem w_874 : Cond.methodLink "QuarterWalks$Ways" 42 yX9_waysOn ∈ wAll := wI4 59 (by decide +kernel) (by decide +kernel)
theorem w_24 : Cond.selects yX9_waysOn.cls yX9_waysOn yX9_waysOn ∈ wAll := wIn 24 (by decide +kernel) (by decide +kernel)
theorem mk_X9_waysOn : mk yX9_waysOn 4 := ⟨by decide +kernel, w_102⟩
theorem w_876 : Cond.instanceMethod yX9_waysOn ∈ wAll := wI4 61 (by decide +kernel) (by decide +kernel)
theorem w_877 : Cond.code yX9_waysOn cX9_waysOn 7 (some .int) ∈ wAll := wI4 62 (by decide +kernel) (by decide +kernel)
theorem dX9_lead_149 : decode cX9_lead 149 = .ok (.iastore, 1) := by decide +kernel
theorem dX9_lead_150 : decode cX9_lead 150 = .ok (.iinc 8 1, 3) := by decide +kernel
theorem dX9_lead_153 : decode cX9_lead 153 = .ok (.goto (-72), 3) := by decide +kernel
theorem dX9_lead_133 : decode cX9_lead 133 = .ok (.iload 9, 2) := by decide +kernel
theorem dX9_lead_135 : decode cX9_lead 135 = .ok (.goto 14, 3) := by decide +kernel
theorem dX9_lead_99 : decode cX9_lead 99 = .ok (.iload 8, 2) := by decide +kernel
theorem dX9_lead_101 : decode cX9_lead 101 = .ok (.iload 4, 2) := by decide +kernel
theorem dX9_lead_103 : decode cX9_lead 103 = .ok (.if_icmp .ne 7, 3) := by decide +kernel
theorem dX9_lead_106 : decode cX9_lead 106 = .ok (.iconst 1, 1) := by decide +kernel
theorem dX9_lead_107 : decode cX9_lead 107 = .ok (.goto 4, 3) := by decide +kernel
theorem dX9_lead_184 : decode cX9_lead 184 = .ok (.ireturn, 1) := by decide +kernel
theorem dX9_follow_0 : decode cX9_follow 0 = .ok (.aload_n 0, 1) := by decide +kernel
theorem dX9_follow_1 : decode cX9_follow 1 = .ok (.getfield 34, 3) := by decide +kernel
theorem dX9_follow_4 : decode cX9_follow 4 = .ok (.istore 4, 2) := by decide +kernel
theorem dX9_follow_6 : decode cX9_follow 6 = .ok (.aload_n 0, 1) := by decide +kernel
theorem dX9_follow_7 : decode cX9_follow 7 = .ok (.getfield 38, 3) := by decide +kernel
theorem dX9_follow_10 : decode cX9_follow 10 = .ok (.istore 5, 2) := by decide +kernel
theorem dX9_follow_12 : decode cX9_follow 12 = .ok (.iload_n 2, 1) := by decide +kernel
theorem dX9_follow_13 : decode cX9_follow 13 = .ok (.istore 6, 2) := by decide +kernel
theorem dX9_follow_15 : decode cX9_follow 15 = .ok (.ldc 64, 2) := by decide +kernel
theorem w_889 : Cond.constant "QuarterWalks$Ways" 64 (-1000000) ∈ wAll := wI4 74 (by decide +kernel) (by decide +kernel)
theorem dX9_follow_17 : decode cX9_follow 17 = .ok (.istore 7, 2) := by decide +kernel
theorem dX9_follow_19 : decode cX9_follow 19 = .ok (.iconst 0, 1) := by decide +kernel
theorem dX9_follow_20 : decode cX9_follow 20 = .ok (.istore 8, 2) := by decide +kernel
theorem dX9_follow_22 : decode cX9_follow 22 = .ok (.iload 8, 2) := by decide +kernel
theorem dX9_follow_24 : decode cX9_follow 24 = .ok (.iload_n 3, 1) := by decide +kernel
theorem dX9_follow_25 : decode cX9_follow 25 = .ok (.if_icmp .gt 145, 3) := by decide +kernel
theorem dX9_follow_170 : decode cX9_follow 170 = .ok (.iload 7, 2) := by decide +kernel
theorem dX9_follow_28 : decode cX9_follow 28 = .ok (.iload 8, 2) := by decide +kernel
theorem dX9_follow_30 : decode cX9_follow 30 = .ok (.aload_n 0, 1) := by decide +kernel
theorem dX9_follow_31 : decode cX9_follow 31 = .ok (.getfield 25, 3) := by decide +kernel
theorem dX9_follow_34 : decode cX9_follow 34 = .ok (.if_icmp .ge 136, 3) := by decide +kernel
theorem dX9_follow_37 : decode cX9_follow 37 = .ok (.ldc 64, 2) := by decide +kernel
theorem dX9_follow_39 : decode cX9_follow 39 = .ok (.istore 7, 2) := by decide +kernel
theorem dX9_follow_41 : decode cX9_follow 41 = .ok (.iconst 0, 1) := by decide +kernel
theorem dX9_follow_42 : decode cX9_follow 42 = .ok (.istore 9, 2) := by decide +kernel
theorem dX9_follow_44 : decode cX9_follow 44 = .ok (.iload 9, 2) := by decide +kernel
theorem dX9_follow_46 : decode cX9_follow 46 = .ok (.bipush 8, 2) := by decide +kernel
theorem dX9_follow_48 : decode cX9_follow 48 = .ok (.if_icmp .ge 84, 3) := by decide +kernel
theorem dX9_follow_51 : decode cX9_follow 51 = .ok (.iload 7, 2) := by decide +kernel
theorem dX9_follow_53 : decode cX9_follow 53 = .ok (.ldc 64, 2) := by decide +kernel
theorem dX9_follow_55 : decode cX9_follow 55 = .ok (.if_icmp .ne 77, 3) := by decide +kernel
theorem dX9_follow_58 : decode cX9_follow 58 = .ok (.aload_n 1, 1) := by decide +kernel
theorem dX9_follow_59 : decode cX9_follow 59 = .ok (.getfield 50, 3) := by decide +kernel
theorem dX9_follow_62 : decode cX9_follow 62 = .ok (.iload 9, 2) := by decide +kernel
theorem dX9_follow_64 : decode cX9_follow 64 = .ok (.iaload, 1) := by decide +kernel
theorem dX9_follow_65 : decode cX9_follow 65 = .ok (.ifCond .ne 7, 3) := by decide +kernel
theorem dX9_follow_72 : decode cX9_follow 72 = .ok (.aload_n 0, 1) := by decide +kernel
theorem dX9_follow_73 : decode cX9_follow 73 = .ok (.aload_n 0, 1) := by decide +kernel
theorem dX9_follow_74 : decode cX9_follow 74 = .ok (.getfield 25, 3) := by decide +kernel
theorem dX9_follow_77 : decode cX9_follow 77 = .ok (.iload 8, 2) := by decide +kernel
theorem dX9_follow_79 : decode cX9_follow 79 = .ok (.isub, 1) := by decide +kernel
theorem dX9_follow_80 : decode cX9_follow 80 = .ok (.iconst 1, 1) := by decide +kernel
theorem dX9_follow_81 : decode cX9_follow 81 = .ok (.isub, 1) := by decide +kernel
theorem dX9_follow_82 : decode cX9_follow 82 = .ok (.iload 4, 2) := by decide +kernel
theorem dX9_follow_84 : decode cX9_follow 84 = .ok (.getstatic 54, 3) := by decide +kernel
theorem dX9_follow_87 : decode cX9_follow 87 = .ok (.iload 9, 2) := by decide +kernel
theorem dX9_follow_89 : decode cX9_follow 89 = .ok (.iaload, 1) := by decide +kernel
theorem dX9_follow_90 : decode cX9_follow 90 = .ok (.iadd, 1) := by decide +kernel
theorem dX9_follow_91 : decode cX9_follow 91 = .ok (.iload 5, 2) := by decide +kernel
theorem dX9_follow_93 : decode cX9_follow 93 = .ok (.getstatic 57, 3) := by decide +kernel
theorem dX9_follow_96 : decode cX9_follow 96 = .ok (.iload 9, 2) := by decide +kernel
theorem dX9_follow_98 : decode cX9_follow 98 = .ok (.iaload, 1) := by decide +kernel
theorem dX9_follow_99 : decode cX9_follow 99 = .ok (.iadd, 1) := by decide +kernel
theorem dX9_follow_100 : decode cX9_follow 100 = .ok (.invokevirtual 46, 3) := by decide +kernel
theorem dX9_follow_103 : decode cX9_follow 103 = .ok (.istore 10, 2) := by decide +kernel
theorem dX9_follow_105 : decode cX9_follow 105 = .ok (.iload 6, 2) := by decide +kernel
theorem dX9_follow_107 : decode cX9_follow 107 = .ok (.iload 10, 2) := by decide +kernel
theorem dX9_follow_109 : decode cX9_follow 109 = .ok (.if_icmp .ge 10, 3) := by decide +kernel
theorem dX9_follow_119 : decode cX9_follow 119 = .ok (.iload 6, 2) := by decide +kernel
theorem dX9_follow_121 : decode cX9_follow 121 = .ok (.iload 10, 2) := by decide +kernel
theorem dX9_follow_123 : decode cX9_follow 123 = .ok (.isub, 1) := by decide +kernel
theorem dX9_follow_124 : decode cX9_follow 124 = .ok (.istore 6, 2) := by decide +kernel
theorem dX9_follow_126 : decode cX9_follow 126 = .ok (.iinc 9 1, 3) := by decide +kernel
theorem dX9_follow_129 : decode cX9_follow 129 = .ok (.goto (-85), 3) := by decide +kernel
theorem dX9_follow_112 : decode cX9_follow 112 = .ok (.iload 9, 2) := by decide +kernel
theorem dX9_follow_114 : decode cX9_follow 114 = .ok (.istore 7, 2) := by decide +kernel
theorem dX9_follow_116 : decode cX9_follow 116 = .ok (.goto 10, 3) := by decide +kernel
theorem dX9_follow_68 : decode cX9_follow 68 = .ok (.iconst 0, 1) := by decide +kernel
theorem dX9_follow_69 : decode cX9_follow 69 = .ok (.goto 34, 3) := by decide +kernel
theorem dX9_follow_132 : decode cX9_follow 132 = .ok (.iload 7, 2) := by decide +kernel
theorem dX9_follow_134 : decode cX9_follow 134 = .ok (.ldc 64, 2) := by decide +kernel
theorem dX9_follow_136 : decode cX9_follow 136 = .ok (.if_icmp .ne 6, 3) := by decide +kernel
theorem dX9_follow_142 : decode cX9_follow 142 = .ok (.iload 4, 2) := by decide +kernel
theorem dX9_follow_144 : decode cX9_follow 144 = .ok (.getstatic 54, 3) := by decide +kernel
theorem dX9_follow_147 : decode cX9_follow 147 = .ok (.iload 7, 2) := by decide +kernel
theorem dX9_follow_149 : decode cX9_follow 149 = .ok (.iaload, 1) := by decide +kernel
theorem dX9_follow_150 : decode cX9_follow 150 = .ok (.iadd, 1) := by decide +kernel
theorem dX9_follow_151 : decode cX9_follow 151 = .ok (.istore 4, 2) := by decide +kernel
theorem dX9_follow_153 : decode cX9_follow 153 = .ok (.iload 5, 2) := by decide +kernel
theorem dX9_follow_155 : decode cX9_follow 155 = .ok (.getstatic 57, 3) := by decide +kernel
theorem dX9_follow_158 : decode cX9_follow 158 = .ok (.iload 7, 2) := by decide +kernel
theorem dX9_follow_160 : decode cX9_follow 160 = .ok (.iaload, 1) := by decide +kernel
theorem dX9_follow_161 : decode cX9_follow 161 = .ok (.iadd, 1) := by decide +kernel
theorem dX9_follow_162 : decode cX9_follow 162 = .ok (.istore 5, 2) := by decide +kernel
theorem dX9_follow_164 : decode cX9_follow 164 = .ok (.iinc 8 1, 3) := by decide +kernel
theorem dX9_follow_167 : decode cX9_follow 167 = .ok (.goto (-145), 3) := by decide +kernel
theorem dX9_follow_139 : decode cX9_follow 139 = .ok (.ldc 64, 2) := by decide +kernel
theorem dX9_follow_141 : decode cX9_follow 141 = .ok (.ireturn, 1) := by decide +kernel
theorem dX9_follow_172 : decode cX9_follow 172 = .ok (.ireturn, 1) := by decide +kernel
theorem dJ7_fill_53178_0 : decode cJ7_fill_53178 0 = .ok (.iconst 0, 1) := by decide +kernel
theorem dJ7_fill_53178_1 : decode cJ7_fill_53178 1 = .ok (.istore_n 2, 1) := by decide +kernel
theorem dJ7_fill_53178_2 : decode cJ7_fill_53178 2 = .ok (.aload_n 0, 1) := by decide +kernel
theorem dJ7_fill_53178_3 : decode cJ7_fill_53178 3 = .ok (.arraylength, 1) := by decide +kernel
theorem dJ7_fill_53178_4 : decode cJ7_fill_53178 4 = .ok (.istore_n 3, 1) := by decide +kernel
theorem dJ7_fill_53178_5 : decode cJ7_fill_53178 5 = .ok (.iload_n 2, 1) := by decide +kernel
theorem dJ7_fill_53178_6 : decode cJ7_fill_53178 6 = .ok (.iload_n 3, 1) := by decide +kernel
theorem dJ7_fill_53178_7 : decode cJ7_fill_53178 7 = .ok (.if_icmp .ge 13, 3) := by decide +kernel
theorem dJ7_fill_53178_10 : decode cJ7_fill_53178 10 = .ok (.aload_n 0, 1) := by decide +kernel
theorem dJ7_fill_53178_11 : decode cJ7_fill_53178 11 = .ok (.iload_n 2, 1) := by decide +kernel
theorem dJ7_fill_53178_12 : decode cJ7_fill_53178 12 = .ok (.iload_n 1, 1) := by decide +kernel
theorem dJ7_fill_53178_13 : decode cJ7_fill_53178 13 = .ok (.iastore, 1) := by decide +kernel
theorem dJ7_fill_53178_14 : decode cJ7_fill_53178 14 = .ok (.iinc 2 1, 3) := by decide +kernel
theorem dJ7_fill_53178_17 : decode cJ7_fill_53178 17 = .ok (.goto (-12), 3) := by decide +kernel
theorem dJ7_fill_53178_20 : decode cJ7_fill_53178 20 = .ok (.return_, 1) := by decide +kernel
theorem dX3_isShape_0 : decode cX3_isShape 0 = .ok (.iload_n 0, 1) := by decide +kernel
theorem dX3_isShape_1 : decode cX3_isShape 1 = .ok (.ifCond .ne 29, 3) := by decide +kernel
theorem dX3_isShape_4 : decode cX3_isShape 4 = .ok (.iload_n 1, 1) := by decide +kernel
theorem dX3_isShape_5 : decode cX3_isShape 5 = .ok (.iconst 1, 1) := by decide +kernel
theorem dX3_isShape_6 : decode cX3_isShape 6 = .ok (.iconst 4, 1) := by decide +kernel
theorem dX3_isShape_7 : decode cX3_isShape 7 = .ok (.invokestatic 26, 3) := by decide +kernel
theorem dX3_isShape_10 : decode cX3_isShape 10 = .ok (.ifCond .eq 16, 3) := by decide +kernel
theorem dX3_isShape_26 : decode cX3_isShape 26 = .ok (.iconst 0, 1) := by decide +kernel
theorem dX3_isShape_27 : decode cX3_isShape 27 = .ok (.goto 27, 3) := by decide +kernel
theorem dX3_isShape_13 : decode cX3_isShape 13 = .ok (.iload_n 2, 1) := by decide +kernel
theorem dX3_isShape_14 : decode cX3_isShape 14 = .ok (.iconst 0, 1) := by decide +kernel
theorem dX3_isShape_15 : decode cX3_isShape 15 = .ok (.iconst 4, 1) := by decide +kernel
theorem dX3_isShape_16 : decode cX3_isShape 16 = .ok (.invokestatic 26, 3) := by decide +kernel
theorem dX3_isShape_19 : decode cX3_isShape 19 = .ok (.ifCond .eq 7, 3) := by decide +kernel
theorem dX3_isShape_22 : decode cX3_isShape 22 = .ok (.iconst 1, 1) := by decide +kernel
theorem dX3_isShape_23 : decode cX3_isShape 23 = .ok (.goto 31, 3) := by decide +kernel
theorem dX3_isShape_54 : decode cX3_isShape 54 = .ok (.ireturn, 1) := by decide +kernel
theorem dX3_multiply_0 : decode cX3_multiply 0 = .ok (.iconst 0, 1) := by decide +kernel
theorem dX3_multiply_1 : decode cX3_multiply 1 = .ok (.istore_n 3, 1) := by decide +kernel
theorem dX3_multiply_2 : decode cX3_multiply 2 = .ok (.iload_n 3, 1) := by decide +kernel
theorem dX3_multiply_3 : decode cX3_multiply 3 = .ok (.bipush 61, 2) := by decide +kernel
theorem dX3_multiply_5 : decode cX3_multiply 5 = .ok (.if_icmp .ge 56, 3) := by decide +kernel
theorem dX3_multiply_8 : decode cX3_multiply 8 = .ok (.lconst 0, 1) := by decide +kernel
theorem dX3_multiply_9 : decode cX3_multiply 9 = .ok (.lstore 4, 2) := by decide +kernel
theorem dX3_multiply_11 : decode cX3_multiply 11 = .ok (.iconst 0, 1) := by decide +kernel
theorem dX3_multiply_12 : decode cX3_multiply 12 = .ok (.istore 6, 2) := by decide +kernel
theorem dX3_multiply_14 : decode cX3_multiply 14 = .ok (.iload 6, 2) := by decide +kernel
theorem dX3_multiply_16 : decode cX3_multiply 16 = .ok (.iload_n 3, 1) := by decide +kernel
theorem dX3_multiply_17 : decode cX3_multiply 17 = .ok (.if_icmp .gt 30, 3) := by decide +kernel
theorem dX3_multiply_20 : decode cX3_multiply 20 = .ok (.lload 4, 2) := by decide +kernel
theorem dX3_multiply_22 : decode cX3_multiply 22 = .ok (.aload_n 0, 1) := by decide +kernel
theorem dX3_multiply_23 : decode cX3_multiply 23 = .ok (.iload 6, 2) := by decide +kernel
theorem dX3_multiply_25 : decode cX3_multiply 25 = .ok (.iaload, 1) := by decide +kernel
theorem dX3_multiply_26 : decode cX3_multiply 26 = .ok (.i2l, 1) := by decide +kernel
theorem dX3_multiply_27 : decode cX3_multiply 27 = .ok (.aload_n 1, 1) := by decide +kernel
theorem dX3_multiply_28 : decode cX3_multiply 28 = .ok (.iload_n 3, 1) := by decide +kernel
theorem dX3_multiply_29 : decode cX3_multiply 29 = .ok (.iload 6, 2) := by decide +kernel
theorem dX3_multiply_31 : decode cX3_multiply 31 = .ok (.isub, 1) := by decide +kernel
theorem dX3_multiply_32 : decode cX3_multiply 32 = .ok (.iaload, 1) := by decide +kernel
theorem dX3_multiply_33 : decode cX3_multiply 33 = .ok (.i2l, 1) := by decide +kernel
theorem dX3_multiply_34 : decode cX3_multiply 34 = .ok (.invokestatic 44, 3) := by decide +kernel
theorem dX3_multiply_37 : decode cX3_multiply 37 = .ok (.i2l, 1) := by decide +kernel
theorem dX3_multiply_38 : decode cX3_multiply 38 = .ok (.ladd, 1) := by decide +kernel
theorem dX3_multiply_39 : decode cX3_multiply 39 = .ok (.lstore 4, 2) := by decide +kernel
theorem dX3_multiply_41 : decode cX3_multiply 41 = .ok (.iinc 6 1, 3) := by decide +kernel
theorem dX3_multiply_44 : decode cX3_multiply 44 = .ok (.goto (-30), 3) := by decide +kernel
theorem dX3_multiply_47 : decode cX3_multiply 47 = .ok (.aload_n 2, 1) := by decide +kernel
theorem dX3_multiply_48 : decode cX3_multiply 48 = .ok (.iload_n 3, 1) := by decide +kernel
theorem dX3_multiply_49 : decode cX3_multiply 49 = .ok (.lload 4, 2) := by decide +kernel
theorem dX3_multiply_51 : decode cX3_multiply 51 = .ok (.invokestatic 48, 3) := by decide +kernel
theorem dX3_multiply_54 : decode cX3_multiply 54 = .ok (.iastore, 1) := by decide +kernel
theorem dX3_multiply_55 : decode cX3_multiply 55 = .ok (.iinc 3 1, 3) := by decide +kernel
theorem dX3_multiply_58 : decode cX3_multiply 58 = .ok (.goto (-56), 3) := by decide +kernel
theorem dX3_multiply_61 : decode cX3_multiply 61 = .ok (.return_, 1) := by decide +kernel
theorem dX3_load_0 : decode cX3_load 0 = .ok (.aload_n 0, 1) := by decide +kernel
theorem dX3_load_1 : decode cX3_load 1 = .ok (.iload_n 3, 1) := by decide +kernel
theorem dX3_load_2 : decode cX3_load 2 = .ok (.putfield 30, 3) := by decide +kernel
theorem w_338 : Cond.laysFinal "QuarterWalks$Guess" "QuarterWalks$Guess" "matrix" "LQuarterWalks$Matrix;" ∈ wAll := wI2 3 (by decide +kernel) (by decide +kernel)
theorem w_340 : Cond.laysFinal "QuarterWalks$Guess" "QuarterWalks$Guess" "powers" "[[I" ∈ wAll := wI2 5 (by decide +kernel) (by decide +kernel)
theorem w_342 : Cond.laysFinal "QuarterWalks$Guess" "QuarterWalks$Guess" "found" "[I" ∈ wAll := wI2 7 (by decide +kernel) (by decide +kernel)
theorem w_344 : Cond.lays "QuarterWalks$Guess" "QuarterWalks$Guess" "which" "I" ∈ wAll := wI2 9 (by decide +kernel) (by decide +kernel)
theorem inA_X3 : ∀ w ∈ u_ws RX3 TX3 4, w ∈ wAll := List.forall_mem_cons.mpr ⟨w_338, List.forall_mem_cons.mpr ⟨w_340, List.forall_mem_cons.mpr ⟨w_342, List.forall_mem_cons.mpr ⟨w_344, fun _ h => absurd h List.not_mem_nil⟩⟩⟩⟩
theorem w_337 : Cond.fieldLink "QuarterWalks$Guess" 30 "QuarterWalks$Guess" "which" "I" ∈ wAll := wI2 2 (by decide +kernel) (by decide +kernel)
theorem flw_X3_30 : flw RX3 30 4 3 (.int) := ⟨RX3, TX3, 4, tyX3, rfl, inA_X3, by decide, w_337, tyX3_ok, nmX3, by decide +kernel, Or.inl rfl⟩
theorem dX3_load_5 : decode cX3_load 5 = .ok (.aload_n 0, 1) := by decide +kernel
theorem dX3_load_6 : decode cX3_load 6 = .ok (.getfield 17, 3) := by decide +kernel
theorem w_335 : Cond.fieldLink "QuarterWalks$Guess" 17 "QuarterWalks$Guess" "powers" "[[I" ∈ wAll := wI2 0 (by decide +kernel) (by decide +kernel)
theorem fl_X3_17 : fl RX3 17 4 1 := ⟨RX3, TX3, 4, rfl, inA_X3, by decide, w_335⟩
theorem dX3_load_9 : decode cX3_load 9 = .ok (.iconst 0, 1) := by decide +kernel
theorem dX3_load_10 : decode cX3_load 10 = .ok (.aaload, 1) := by decide +kernel
theorem dX3_load_11 : decode cX3_load 11 = .ok (.iconst 0, 1) := by decide +kernel
theorem dX3_load_12 : decode cX3_load 12 = .ok (.invokestatic 34, 3) := by decide +kernel
theorem w_1038 : Cond.methodLink "QuarterWalks$Guess" 34 yJ7_fill_53178 ∈ wAll := wI4 223 (by decide +kernel) (by decide +kernel)
theorem w_111 : Cond.initialized "java/util/Arrays" ∈ wAll := wI1 16 (by decide +kernel) (by decide +kernel)
theorem mk_J7_fill_53178 : mk yJ7_fill_53178 2 := ⟨by decide +kernel, w_111⟩
theorem w_437 : Cond.static yJ7_fill_53178 ∈ wAll := wI2 102 (by decide +kernel) (by decide +kernel)
theorem w_438 : Cond.code yJ7_fill_53178 cJ7_fill_53178 4 none ∈ wAll := wI2 103 (by decide +kernel) (by decide +kernel)
theorem dX3_load_15 : decode cX3_load 15 = .ok (.aload_n 0, 1) := by decide +kernel
theorem dX3_load_16 : decode cX3_load 16 = .ok (.getfield 17, 3) := by decide +kernel
theorem dX3_load_19 : decode cX3_load 19 = .ok (.iconst 0, 1) := by decide +kernel
theorem dX3_load_20 : decode cX3_load 20 = .ok (.aaload, 1) := by decide +kernel
theorem dX3_load_21 : decode cX3_load 21 = .ok (.iconst 0, 1) := by decide +kernel
theorem dX3_load_22 : decode cX3_load 22 = .ok (.iconst 1, 1) := by decide +kernel
theorem dX3_load_23 : decode cX3_load 23 = .ok (.iastore, 1) := by decide +kernel
theorem dX3_load_24 : decode cX3_load 24 = .ok (.iconst 0, 1) := by decide +kernel
theorem dX3_load_25 : decode cX3_load 25 = .ok (.istore 4, 2) := by decide +kernel
theorem dX3_load_27 : decode cX3_load 27 = .ok (.iload 4, 2) := by decide +kernel
theorem dX3_load_29 : decode cX3_load 29 = .ok (.bipush 61, 2) := by decide +kernel
theorem dX3_load_31 : decode cX3_load 31 = .ok (.if_icmp .ge 39, 3) := by decide +kernel
theorem dX3_load_34 : decode cX3_load 34 = .ok (.iload_n 2, 1) := by decide +kernel
theorem dX3_load_35 : decode cX3_load 35 = .ok (.bipush 61, 2) := by decide +kernel
theorem dX3_load_37 : decode cX3_load 37 = .ok (.imul, 1) := by decide +kernel
theorem dX3_load_38 : decode cX3_load 38 = .ok (.iload 4, 2) := by decide +kernel
theorem dX3_load_40 : decode cX3_load 40 = .ok (.iadd, 1) := by decide +kernel
theorem dX3_load_41 : decode cX3_load 41 = .ok (.aload_n 1, 1) := by decide +kernel
theorem dX3_load_42 : decode cX3_load 42 = .ok (.arraylength, 1) := by decide +kernel
theorem dX3_load_43 : decode cX3_load 43 = .ok (.if_icmp .ge 27, 3) := by decide +kernel
theorem dX3_load_46 : decode cX3_load 46 = .ok (.aload_n 0, 1) := by decide +kernel
theorem dX3_load_47 : decode cX3_load 47 = .ok (.getfield 17, 3) := by decide +kernel
theorem dX3_load_50 : decode cX3_load 50 = .ok (.iconst 1, 1) := by decide +kernel
theorem dX3_load_51 : decode cX3_load 51 = .ok (.aaload, 1) := by decide +kernel
theorem dX3_load_52 : decode cX3_load 52 = .ok (.iload 4, 2) := by decide +kernel
theorem dX3_load_54 : decode cX3_load 54 = .ok (.aload_n 1, 1) := by decide +kernel
theorem dX3_load_55 : decode cX3_load 55 = .ok (.iload_n 2, 1) := by decide +kernel
theorem dX3_load_56 : decode cX3_load 56 = .ok (.bipush 61, 2) := by decide +kernel
theorem dX3_load_58 : decode cX3_load 58 = .ok (.imul, 1) := by decide +kernel
theorem dX3_load_59 : decode cX3_load 59 = .ok (.iload 4, 2) := by decide +kernel
theorem dX3_load_61 : decode cX3_load 61 = .ok (.iadd, 1) := by decide +kernel
theorem dX3_load_62 : decode cX3_load 62 = .ok (.iaload, 1) := by decide +kernel
theorem dX3_load_63 : decode cX3_load 63 = .ok (.iastore, 1) := by decide +kernel
theorem dX3_load_64 : decode cX3_load 64 = .ok (.iinc 4 1, 3) := by decide +kernel
theorem dX3_load_67 : decode cX3_load 67 = .ok (.goto (-40), 3) := by decide +kernel
theorem dX3_load_70 : decode cX3_load 70 = .ok (.aload_n 0, 1) := by decide +kernel
theorem dX3_load_71 : decode cX3_load 71 = .ok (.getfield 30, 3) := by decide +kernel
theorem fl_X3_30 : fl RX3 30 4 3 := ⟨RX3, TX3, 4, rfl, inA_X3, by decide, w_337⟩
theorem dX3_load_74 : decode cX3_load 74 = .ok (.iconst 1, 1) := by decide +kernel
theorem dX3_load_75 : decode cX3_load 75 = .ok (.if_icmp .ne 45, 3) := by decide +kernel
theorem dX3_load_120 : decode cX3_load 120 = .ok (.return_, 1) := by decide +kernel
theorem dX3_factor_0 : decode cX3_factor 0 = .ok (.aload_n 0, 1) := by decide +kernel
theorem dX3_factor_1 : decode cX3_factor 1 = .ok (.getfield 30, 3) := by decide +kernel
theorem dX3_factor_4 : decode cX3_factor 4 = .ok (.iconst 1, 1) := by decide +kernel
theorem dX3_factor_5 : decode cX3_factor 5 = .ok (.if_icmp .ne 23, 3) := by decide +kernel
theorem dX3_factor_28 : decode cX3_factor 28 = .ok (.aload_n 0, 1) := by decide +kernel
theorem dX3_factor_29 : decode cX3_factor 29 = .ok (.getfield 17, 3) := by decide +kernel
theorem dX3_factor_32 : decode cX3_factor 32 = .ok (.iconst 1, 1) := by decide +kernel
theorem dX3_factor_33 : decode cX3_factor 33 = .ok (.aaload, 1) := by decide +kernel
theorem dX3_factor_34 : decode cX3_factor 34 = .ok (.iload_n 3, 1) := by decide +kernel
theorem dX3_factor_35 : decode cX3_factor 35 = .ok (.iload_n 1, 1) := by decide +kernel
theorem dX3_factor_36 : decode cX3_factor 36 = .ok (.iadd, 1) := by decide +kernel
theorem dX3_factor_37 : decode cX3_factor 37 = .ok (.iaload, 1) := by decide +kernel
theorem dX3_factor_38 : decode cX3_factor 38 = .ok (.i2l, 1) := by decide +kernel
theorem dX3_factor_39 : decode cX3_factor 39 = .ok (.lstore 4, 2) := by decide +kernel
theorem dX3_factor_41 : decode cX3_factor 41 = .ok (.iconst 0, 1) := by decide +kernel
theorem dX3_factor_42 : decode cX3_factor 42 = .ok (.istore 6, 2) := by decide +kernel
theorem dX3_factor_44 : decode cX3_factor 44 = .ok (.iload 6, 2) := by decide +kernel
theorem dX3_factor_46 : decode cX3_factor 46 = .ok (.iload_n 2, 1) := by decide +kernel
theorem dX3_factor_47 : decode cX3_factor 47 = .ok (.if_icmp .ge 20, 3) := by decide +kernel
theorem dX3_factor_67 : decode cX3_factor 67 = .ok (.lload 4, 2) := by decide +kernel
theorem dX3_factor_69 : decode cX3_factor 69 = .ok (.l2i, 1) := by decide +kernel
theorem dX3_factor_50 : decode cX3_factor 50 = .ok (.lload 4, 2) := by decide +kernel
theorem dX3_factor_52 : decode cX3_factor 52 = .ok (.iload_n 3, 1) := by decide +kernel
theorem dX3_factor_53 : decode cX3_factor 53 = .ok (.i2l, 1) := by decide +kernel
theorem dX3_factor_54 : decode cX3_factor 54 = .ok (.lmul, 1) := by decide +kernel
theorem dX3_factor_55 : decode cX3_factor 55 = .ok (.ldc2_w 79, 3) := by decide +kernel
theorem w_1057 : Cond.constantLong "QuarterWalks$Guess" 79 1000003 ∈ wAll := wI5 2 (by decide +kernel) (by decide +kernel)
theorem dX3_factor_58 : decode cX3_factor 58 = .ok (.lrem, 1) := by decide +kernel
theorem dX3_factor_59 : decode cX3_factor 59 = .ok (.lstore 4, 2) := by decide +kernel
theorem dX3_factor_61 : decode cX3_factor 61 = .ok (.iinc 6 1, 3) := by decide +kernel
theorem dX3_factor_64 : decode cX3_factor 64 = .ok (.goto (-20), 3) := by decide +kernel
theorem dX3_factor_70 : decode cX3_factor 70 = .ok (.ireturn, 1) := by decide +kernel
theorem dX3_solve_0 : decode cX3_solve 0 = .ok (.iload_n 1, 1) := by decide +kernel
theorem dX3_solve_1 : decode cX3_solve 1 = .ok (.iconst 1, 1) := by decide +kernel
theorem dX3_solve_2 : decode cX3_solve 2 = .ok (.iadd, 1) := by decide +kernel
theorem dX3_solve_3 : decode cX3_solve 3 = .ok (.iload_n 2, 1) := by decide +kernel
theorem dX3_solve_4 : decode cX3_solve 4 = .ok (.iconst 1, 1) := by decide +kernel
theorem dX3_solve_5 : decode cX3_solve 5 = .ok (.iadd, 1) := by decide +kernel
theorem dX3_solve_6 : decode cX3_solve 6 = .ok (.imul, 1) := by decide +kernel
theorem dX3_solve_7 : decode cX3_solve 7 = .ok (.istore_n 3, 1) := by decide +kernel
theorem dX3_solve_8 : decode cX3_solve 8 = .ok (.aload_n 0, 1) := by decide +kernel
theorem dX3_solve_9 : decode cX3_solve 9 = .ok (.getfield 9, 3) := by decide +kernel
theorem w_334 : Cond.fieldLink "QuarterWalks$Guess" 9 "QuarterWalks$Guess" "matrix" "LQuarterWalks$Matrix;" ∈ wAll := wI1 239 (by decide +kernel) (by decide +kernel)
theorem fl_X3_9 : fl RX3 9 4 0 := ⟨RX3, TX3, 4, rfl, inA_X3, by decide, w_334⟩
theorem dX3_solve_12 : decode cX3_solve 12 = .ok (.iload_n 3, 1) := by decide +kernel
theorem dX3_solve_13 : decode cX3_solve 13 = .ok (.iconst 4, 1) := by decide +kernel
theorem dX3_solve_14 : decode cX3_solve 14 = .ok (.iadd, 1) := by decide +kernel
theorem dX3_solve_15 : decode cX3_solve 15 = .ok (.iload_n 3, 1) := by decide +kernel
theorem dX3_solve_16 : decode cX3_solve 16 = .ok (.invokevirtual 60, 3) := by decide +kernel
theorem w_1052 : Cond.methodLink "QuarterWalks$Guess" 60 yX4_shape ∈ wAll := wI4 237 (by decide +kernel) (by decide +kernel)
theorem w_788 : Cond.selects yX4_shape.cls yX4_shape yX4_shape ∈ wAll := wI3 213 (by decide +kernel) (by decide +kernel)
theorem mk_X4_shape : mk yX4_shape 2 := ⟨by decide +kernel, w_104⟩
theorem w_787 : Cond.instanceMethod yX4_shape ∈ wAll := wI3 212 (by decide +kernel) (by decide +kernel)
theorem w_789 : Cond.code yX4_shape cX4_shape 3 none ∈ wAll := wI3 214 (by decide +kernel) (by decide +kernel)
theorem dX3_solve_19 : decode cX3_solve 19 = .ok (.iconst 0, 1) := by decide +kernel
theorem dX3_solve_20 : decode cX3_solve 20 = .ok (.istore 4, 2) := by decide +kernel
theorem dX3_solve_22 : decode cX3_solve 22 = .ok (.iload 4, 2) := by decide +kernel
theorem dX3_solve_24 : decode cX3_solve 24 = .ok (.iload_n 3, 1) := by decide +kernel
theorem dX3_solve_25 : decode cX3_solve 25 = .ok (.iconst 4, 1) := by decide +kernel
theorem dX3_solve_26 : decode cX3_solve 26 = .ok (.iadd, 1) := by decide +kernel
theorem dX3_solve_27 : decode cX3_solve 27 = .ok (.if_icmp .ge 54, 3) := by decide +kernel
theorem dX3_solve_30 : decode cX3_solve 30 = .ok (.iconst 0, 1) := by decide +kernel
theorem dX3_solve_31 : decode cX3_solve 31 = .ok (.istore 5, 2) := by decide +kernel
theorem dX3_solve_33 : decode cX3_solve 33 = .ok (.iload 5, 2) := by decide +kernel
theorem dX3_solve_35 : decode cX3_solve 35 = .ok (.iload_n 3, 1) := by decide +kernel
theorem dX3_solve_36 : decode cX3_solve 36 = .ok (.if_icmp .ge 39, 3) := by decide +kernel
theorem dX3_solve_39 : decode cX3_solve 39 = .ok (.aload_n 0, 1) := by decide +kernel
theorem dX3_solve_40 : decode cX3_solve 40 = .ok (.getfield 9, 3) := by decide +kernel
theorem dX3_solve_43 : decode cX3_solve 43 = .ok (.iload 4, 2) := by decide +kernel
theorem dX3_solve_45 : decode cX3_solve 45 = .ok (.iload 5, 2) := by decide +kernel
theorem dX3_solve_47 : decode cX3_solve 47 = .ok (.aload_n 0, 1) := by decide +kernel
theorem dX3_solve_48 : decode cX3_solve 48 = .ok (.iload 5, 2) := by decide +kernel
theorem dX3_solve_50 : decode cX3_solve 50 = .ok (.iload_n 2, 1) := by decide +kernel
theorem dX3_solve_51 : decode cX3_solve 51 = .ok (.iconst 1, 1) := by decide +kernel
theorem dX3_solve_52 : decode cX3_solve 52 = .ok (.iadd, 1) := by decide +kernel
theorem dX3_solve_53 : decode cX3_solve 53 = .ok (.idiv, 1) := by decide +kernel
theorem dX3_solve_54 : decode cX3_solve 54 = .ok (.iload 5, 2) := by decide +kernel
theorem dX3_solve_56 : decode cX3_solve 56 = .ok (.iload_n 2, 1) := by decide +kernel
theorem dX3_solve_57 : decode cX3_solve 57 = .ok (.iconst 1, 1) := by decide +kernel
theorem dX3_solve_58 : decode cX3_solve 58 = .ok (.iadd, 1) := by decide +kernel
theorem dX3_solve_59 : decode cX3_solve 59 = .ok (.irem, 1) := by decide +kernel
theorem dX3_solve_60 : decode cX3_solve 60 = .ok (.iload 4, 2) := by decide +kernel
theorem dX3_solve_62 : decode cX3_solve 62 = .ok (.invokevirtual 64, 3) := by decide +kernel
theorem w_1053 : Cond.methodLink "QuarterWalks$Guess" 64 yX3_factor ∈ wAll := wI4 238 (by decide +kernel) (by decide +kernel)
theorem w_29 : Cond.selects yX3_factor.cls yX3_factor yX3_factor ∈ wAll := wIn 29 (by decide +kernel) (by decide +kernel)
theorem w_105 : Cond.initialized "QuarterWalks$Guess" ∈ wAll := wI1 10 (by decide +kernel) (by decide +kernel)
theorem mk_X3_factor : mk yX3_factor 3 := ⟨by decide +kernel, w_105⟩
theorem w_1055 : Cond.instanceMethod yX3_factor ∈ wAll := wI5 0 (by decide +kernel) (by decide +kernel)
theorem w_1056 : Cond.code yX3_factor cX3_factor 7 (some .int) ∈ wAll := wI5 1 (by decide +kernel) (by decide +kernel)
theorem dX3_solve_65 : decode cX3_solve 65 = .ok (.i2l, 1) := by decide +kernel
theorem dX3_solve_66 : decode cX3_solve 66 = .ok (.invokevirtual 68, 3) := by decide +kernel
theorem w_1058 : Cond.methodLink "QuarterWalks$Guess" 68 yX4_put ∈ wAll := wI5 3 (by decide +kernel) (by decide +kernel)
theorem w_794 : Cond.selects yX4_put.cls yX4_put yX4_put ∈ wAll := wI3 219 (by decide +kernel) (by decide +kernel)
theorem mk_X4_put : mk yX4_put 3 := ⟨by decide +kernel, w_104⟩
theorem w_793 : Cond.instanceMethod yX4_put ∈ wAll := wI3 218 (by decide +kernel) (by decide +kernel)
theorem w_795 : Cond.code yX4_put cX4_put 5 none ∈ wAll := wI3 220 (by decide +kernel) (by decide +kernel)
theorem dX3_solve_69 : decode cX3_solve 69 = .ok (.iinc 5 1, 3) := by decide +kernel
theorem dX3_solve_72 : decode cX3_solve 72 = .ok (.goto (-39), 3) := by decide +kernel
theorem dX3_solve_75 : decode cX3_solve 75 = .ok (.iinc 4 1, 3) := by decide +kernel
theorem dX3_solve_78 : decode cX3_solve 78 = .ok (.goto (-56), 3) := by decide +kernel
theorem dX3_solve_81 : decode cX3_solve 81 = .ok (.aload_n 0, 1) := by decide +kernel
theorem dX3_solve_82 : decode cX3_solve 82 = .ok (.getfield 9, 3) := by decide +kernel
theorem dX3_solve_85 : decode cX3_solve 85 = .ok (.invokevirtual 72, 3) := by decide +kernel
theorem w_1059 : Cond.methodLink "QuarterWalks$Guess" 72 yX4_firstMadeUp ∈ wAll := wI5 4 (by decide +kernel) (by decide +kernel)
theorem w_1061 : Cond.selects yX4_firstMadeUp.cls yX4_firstMadeUp yX4_firstMadeUp ∈ wAll := wI5 6 (by decide +kernel) (by decide +kernel)
theorem mk_X4_firstMadeUp : mk yX4_firstMadeUp 0 := ⟨by decide +kernel, w_104⟩
theorem w_1060 : Cond.instanceMethod yX4_firstMadeUp ∈ wAll := wI5 5 (by decide +kernel) (by decide +kernel)
theorem w_1062 : Cond.code yX4_firstMadeUp cX4_firstMadeUp 2 (some .int) ∈ wAll := wI5 7 (by decide +kernel) (by decide +kernel)
theorem dX3_solve_88 : decode cX3_solve 88 = .ok (.istore 4, 2) := by decide +kernel
theorem dX3_solve_90 : decode cX3_solve 90 = .ok (.aload_n 0, 1) := by decide +kernel
theorem dX3_solve_91 : decode cX3_solve 91 = .ok (.getfield 22, 3) := by decide +kernel
theorem w_336 : Cond.fieldLink "QuarterWalks$Guess" 22 "QuarterWalks$Guess" "found" "[I" ∈ wAll := wI2 1 (by decide +kernel) (by decide +kernel)
theorem fl_X3_22 : fl RX3 22 4 2 := ⟨RX3, TX3, 4, rfl, inA_X3, by decide, w_336⟩
theorem dX3_solve_94 : decode cX3_solve 94 = .ok (.iconst 0, 1) := by decide +kernel
theorem dX3_solve_95 : decode cX3_solve 95 = .ok (.invokestatic 34, 3) := by decide +kernel
theorem dX3_solve_98 : decode cX3_solve 98 = .ok (.iload 4, 2) := by decide +kernel
theorem dX3_solve_100 : decode cX3_solve 100 = .ok (.iconst (-1), 1) := by decide +kernel
theorem dX3_solve_101 : decode cX3_solve 101 = .ok (.if_icmp .ne 5, 3) := by decide +kernel
theorem dX3_solve_106 : decode cX3_solve 106 = .ok (.iconst 0, 1) := by decide +kernel
theorem dX3_solve_107 : decode cX3_solve 107 = .ok (.istore 5, 2) := by decide +kernel
theorem dX3_solve_104 : decode cX3_solve 104 = .ok (.iconst 0, 1) := by decide +kernel
theorem dX3_solve_109 : decode cX3_solve 109 = .ok (.iload 5, 2) := by decide +kernel
theorem dX3_solve_111 : decode cX3_solve 111 = .ok (.iload 4, 2) := by decide +kernel
theorem dX3_solve_113 : decode cX3_solve 113 = .ok (.if_icmp .ge 32, 3) := by decide +kernel
theorem dX3_solve_145 : decode cX3_solve 145 = .ok (.aload_n 0, 1) := by decide +kernel
theorem dX3_solve_146 : decode cX3_solve 146 = .ok (.getfield 22, 3) := by decide +kernel
theorem dX3_solve_149 : decode cX3_solve 149 = .ok (.iload 4, 2) := by decide +kernel
theorem dX3_solve_151 : decode cX3_solve 151 = .ok (.iconst 1, 1) := by decide +kernel
theorem dX3_solve_152 : decode cX3_solve 152 = .ok (.iastore, 1) := by decide +kernel
theorem dX3_solve_153 : decode cX3_solve 153 = .ok (.iconst 1, 1) := by decide +kernel
theorem dX3_solve_116 : decode cX3_solve 116 = .ok (.aload_n 0, 1) := by decide +kernel
theorem dX3_solve_117 : decode cX3_solve 117 = .ok (.getfield 22, 3) := by decide +kernel
theorem dX3_solve_120 : decode cX3_solve 120 = .ok (.iload 5, 2) := by decide +kernel
theorem dX3_solve_122 : decode cX3_solve 122 = .ok (.aload_n 0, 1) := by decide +kernel
theorem dX3_solve_123 : decode cX3_solve 123 = .ok (.getfield 9, 3) := by decide +kernel
theorem dX3_solve_126 : decode cX3_solve 126 = .ok (.iload 5, 2) := by decide +kernel
theorem dX3_solve_128 : decode cX3_solve 128 = .ok (.iload 4, 2) := by decide +kernel
theorem dX3_solve_130 : decode cX3_solve 130 = .ok (.invokevirtual 76, 3) := by decide +kernel
theorem w_1063 : Cond.methodLink "QuarterWalks$Guess" 76 yX4_share ∈ wAll := wI5 8 (by decide +kernel) (by decide +kernel)
theorem w_1065 : Cond.selects yX4_share.cls yX4_share yX4_share ∈ wAll := wI5 10 (by decide +kernel) (by decide +kernel)
theorem mk_X4_share : mk yX4_share 2 := ⟨by decide +kernel, w_104⟩
theorem w_1064 : Cond.instanceMethod yX4_share ∈ wAll := wI5 9 (by decide +kernel) (by decide +kernel)
theorem w_1066 : Cond.code yX4_share cX4_share 4 (some .int) ∈ wAll := wI5 11 (by decide +kernel) (by decide +kernel)
theorem dX3_solve_133 : decode cX3_solve 133 = .ok (.ineg, 1) := by decide +kernel
theorem dX3_solve_134 : decode cX3_solve 134 = .ok (.i2l, 1) := by decide +kernel
theorem dX3_solve_135 : decode cX3_solve 135 = .ok (.invokestatic 48, 3) := by decide +kernel
theorem dX3_solve_138 : decode cX3_solve 138 = .ok (.iastore, 1) := by decide +kernel
theorem dX3_solve_139 : decode cX3_solve 139 = .ok (.iinc 5 1, 3) := by decide +kernel
theorem dX3_solve_142 : decode cX3_solve 142 = .ok (.goto (-33), 3) := by decide +kernel
theorem dX3_solve_154 : decode cX3_solve 154 = .ok (.ireturn, 1) := by decide +kernel
theorem dX3_solve_105 : decode cX3_solve 105 = .ok (.ireturn, 1) := by decide +kernel
theorem dX3_firstMiss_0 : decode cX3_firstMiss 0 = .ok (.iload_n 1, 1) := by decide +kernel
theorem dX3_firstMiss_1 : decode cX3_firstMiss 1 = .ok (.iconst 1, 1) := by decide +kernel
theorem dX3_firstMiss_2 : decode cX3_firstMiss 2 = .ok (.iadd, 1) := by decide +kernel
theorem dX3_firstMiss_3 : decode cX3_firstMiss 3 = .ok (.iload_n 2, 1) := by decide +kernel
theorem dX3_firstMiss_4 : decode cX3_firstMiss 4 = .ok (.iconst 1, 1) := by decide +kernel
theorem dX3_firstMiss_5 : decode cX3_firstMiss 5 = .ok (.iadd, 1) := by decide +kernel
theorem dX3_firstMiss_6 : decode cX3_firstMiss 6 = .ok (.imul, 1) := by decide +kernel
theorem dX3_firstMiss_7 : decode cX3_firstMiss 7 = .ok (.istore_n 3, 1) := by decide +kernel
theorem dX3_firstMiss_8 : decode cX3_firstMiss 8 = .ok (.aload_n 0, 1) := by decide +kernel
theorem dX3_firstMiss_9 : decode cX3_firstMiss 9 = .ok (.getfield 30, 3) := by decide +kernel
theorem dX3_firstMiss_12 : decode cX3_firstMiss 12 = .ok (.iconst 1, 1) := by decide +kernel
theorem dX3_firstMiss_13 : decode cX3_firstMiss 13 = .ok (.if_icmp .ne 8, 3) := by decide +kernel
theorem dX3_firstMiss_21 : decode cX3_firstMiss 21 = .ok (.bipush 60, 2) := by decide +kernel
theorem dX3_firstMiss_23 : decode cX3_firstMiss 23 = .ok (.iload_n 1, 1) := by decide +kernel
theorem dX3_firstMiss_24 : decode cX3_firstMiss 24 = .ok (.isub, 1) := by decide +kernel
theorem dX3_firstMiss_25 : decode cX3_firstMiss 25 = .ok (.istore 4, 2) := by decide +kernel
theorem dX3_firstMiss_27 : decode cX3_firstMiss 27 = .ok (.iconst 0, 1) := by decide +kernel
theorem dX3_firstMiss_28 : decode cX3_firstMiss 28 = .ok (.istore 5, 2) := by decide +kernel
theorem dX3_firstMiss_30 : decode cX3_firstMiss 30 = .ok (.iload 5, 2) := by decide +kernel
theorem dX3_firstMiss_32 : decode cX3_firstMiss 32 = .ok (.iload 4, 2) := by decide +kernel
theorem dX3_firstMiss_34 : decode cX3_firstMiss 34 = .ok (.if_icmp .gt 87, 3) := by decide +kernel
theorem dX3_firstMiss_37 : decode cX3_firstMiss 37 = .ok (.lconst 0, 1) := by decide +kernel
theorem dX3_firstMiss_38 : decode cX3_firstMiss 38 = .ok (.lstore 6, 2) := by decide +kernel
theorem dX3_firstMiss_40 : decode cX3_firstMiss 40 = .ok (.iconst 0, 1) := by decide +kernel
theorem dX3_firstMiss_41 : decode cX3_firstMiss 41 = .ok (.istore 8, 2) := by decide +kernel
theorem dX3_firstMiss_43 : decode cX3_firstMiss 43 = .ok (.iload 8, 2) := by decide +kernel
theorem dX3_firstMiss_45 : decode cX3_firstMiss 45 = .ok (.iload_n 3, 1) := by decide +kernel
theorem dX3_firstMiss_46 : decode cX3_firstMiss 46 = .ok (.if_icmp .ge 55, 3) := by decide +kernel
theorem dX3_firstMiss_49 : decode cX3_firstMiss 49 = .ok (.aload_n 0, 1) := by decide +kernel
theorem dX3_firstMiss_50 : decode cX3_firstMiss 50 = .ok (.getfield 22, 3) := by decide +kernel
theorem dX3_firstMiss_53 : decode cX3_firstMiss 53 = .ok (.iload 8, 2) := by decide +kernel
theorem dX3_firstMiss_55 : decode cX3_firstMiss 55 = .ok (.iaload, 1) := by decide +kernel
theorem dX3_firstMiss_56 : decode cX3_firstMiss 56 = .ok (.ifCond .eq 39, 3) := by decide +kernel
theorem dX3_firstMiss_95 : decode cX3_firstMiss 95 = .ok (.iinc 8 1, 3) := by decide +kernel
theorem dX3_firstMiss_98 : decode cX3_firstMiss 98 = .ok (.goto (-55), 3) := by decide +kernel
theorem dX3_firstMiss_59 : decode cX3_firstMiss 59 = .ok (.lload 6, 2) := by decide +kernel
theorem dX3_firstMiss_61 : decode cX3_firstMiss 61 = .ok (.aload_n 0, 1) := by decide +kernel
theorem dX3_firstMiss_62 : decode cX3_firstMiss 62 = .ok (.getfield 22, 3) := by decide +kernel
theorem dX3_firstMiss_65 : decode cX3_firstMiss 65 = .ok (.iload 8, 2) := by decide +kernel
theorem dX3_firstMiss_67 : decode cX3_firstMiss 67 = .ok (.iaload, 1) := by decide +kernel
theorem dX3_firstMiss_68 : decode cX3_firstMiss 68 = .ok (.i2l, 1) := by decide +kernel
theorem dX3_firstMiss_69 : decode cX3_firstMiss 69 = .ok (.aload_n 0, 1) := by decide +kernel
theorem dX3_firstMiss_70 : decode cX3_firstMiss 70 = .ok (.iload 8, 2) := by decide +kernel
theorem dX3_firstMiss_72 : decode cX3_firstMiss 72 = .ok (.iload_n 2, 1) := by decide +kernel
theorem dX3_firstMiss_73 : decode cX3_firstMiss 73 = .ok (.iconst 1, 1) := by decide +kernel
theorem dX3_firstMiss_74 : decode cX3_firstMiss 74 = .ok (.iadd, 1) := by decide +kernel
theorem dX3_firstMiss_75 : decode cX3_firstMiss 75 = .ok (.idiv, 1) := by decide +kernel
theorem dX3_firstMiss_76 : decode cX3_firstMiss 76 = .ok (.iload 8, 2) := by decide +kernel
theorem dX3_firstMiss_78 : decode cX3_firstMiss 78 = .ok (.iload_n 2, 1) := by decide +kernel
theorem dX3_firstMiss_79 : decode cX3_firstMiss 79 = .ok (.iconst 1, 1) := by decide +kernel
theorem dX3_firstMiss_80 : decode cX3_firstMiss 80 = .ok (.iadd, 1) := by decide +kernel
theorem dX3_firstMiss_81 : decode cX3_firstMiss 81 = .ok (.irem, 1) := by decide +kernel
theorem dX3_firstMiss_82 : decode cX3_firstMiss 82 = .ok (.iload 5, 2) := by decide +kernel
theorem dX3_firstMiss_84 : decode cX3_firstMiss 84 = .ok (.invokevirtual 64, 3) := by decide +kernel
theorem dX3_firstMiss_87 : decode cX3_firstMiss 87 = .ok (.i2l, 1) := by decide +kernel
theorem dX3_firstMiss_88 : decode cX3_firstMiss 88 = .ok (.invokestatic 44, 3) := by decide +kernel
theorem dX3_firstMiss_91 : decode cX3_firstMiss 91 = .ok (.i2l, 1) := by decide +kernel
theorem dX3_firstMiss_92 : decode cX3_firstMiss 92 = .ok (.ladd, 1) := by decide +kernel
theorem dX3_firstMiss_93 : decode cX3_firstMiss 93 = .ok (.lstore 6, 2) := by decide +kernel
theorem dX3_firstMiss_101 : decode cX3_firstMiss 101 = .ok (.lload 6, 2) := by decide +kernel
theorem dX3_firstMiss_103 : decode cX3_firstMiss 103 = .ok (.ldc2_w 79, 3) := by decide +kernel
theorem dX3_firstMiss_106 : decode cX3_firstMiss 106 = .ok (.lrem, 1) := by decide +kernel
theorem dX3_firstMiss_107 : decode cX3_firstMiss 107 = .ok (.lconst 0, 1) := by decide +kernel
theorem dX3_firstMiss_108 : decode cX3_firstMiss 108 = .ok (.lcmp, 1) := by decide +kernel
theorem dX3_firstMiss_109 : decode cX3_firstMiss 109 = .ok (.ifCond .eq 6, 3) := by decide +kernel
theorem dX3_firstMiss_115 : decode cX3_firstMiss 115 = .ok (.iinc 5 1, 3) := by decide +kernel
theorem dX3_firstMiss_118 : decode cX3_firstMiss 118 = .ok (.goto (-88), 3) := by decide +kernel
theorem dX3_firstMiss_112 : decode cX3_firstMiss 112 = .ok (.iload 5, 2) := by decide +kernel
theorem dX3_firstMiss_121 : decode cX3_firstMiss 121 = .ok (.iconst (-1), 1) := by decide +kernel
theorem dX3_firstMiss_114 : decode cX3_firstMiss 114 = .ok (.ireturn, 1) := by decide +kernel
theorem dX3_firstMiss_122 : decode cX3_firstMiss 122 = .ok (.ireturn, 1) := by decide +kernel
theorem dX3_coefficient_0 : decode cX3_coefficient 0 = .ok (.iload_n 3, 1) := by decide +kernel
theorem dX3_coefficient_1 : decode cX3_coefficient 1 = .ok (.iload_n 2, 1) := by decide +kernel
theorem dX3_coefficient_2 : decode cX3_coefficient 2 = .ok (.iconst 1, 1) := by decide +kernel
theorem dX3_coefficient_3 : decode cX3_coefficient 3 = .ok (.iadd, 1) := by decide +kernel
theorem dX3_coefficient_4 : decode cX3_coefficient 4 = .ok (.imul, 1) := by decide +kernel
theorem dX3_coefficient_5 : decode cX3_coefficient 5 = .ok (.iload 4, 2) := by decide +kernel
theorem dX3_coefficient_7 : decode cX3_coefficient 7 = .ok (.iadd, 1) := by decide +kernel
theorem dX3_coefficient_8 : decode cX3_coefficient 8 = .ok (.istore 5, 2) := by decide +kernel
theorem dX3_coefficient_10 : decode cX3_coefficient 10 = .ok (.aload_n 0, 1) := by decide +kernel
theorem dX3_coefficient_11 : decode cX3_coefficient 11 = .ok (.iload_n 1, 1) := by decide +kernel
theorem dX3_coefficient_12 : decode cX3_coefficient 12 = .ok (.iload_n 2, 1) := by decide +kernel
theorem dX3_coefficient_13 : decode cX3_coefficient 13 = .ok (.invokevirtual 52, 3) := by decide +kernel
theorem w_1048 : Cond.methodLink "QuarterWalks$Guess" 52 yX3_solve ∈ wAll := wI4 233 (by decide +kernel) (by decide +kernel)
theorem w_28 : Cond.selects yX3_solve.cls yX3_solve yX3_solve ∈ wAll := wIn 28 (by decide +kernel) (by decide +kernel)
theorem mk_X3_solve : mk yX3_solve 2 := ⟨by decide +kernel, w_105⟩
theorem w_1050 : Cond.instanceMethod yX3_solve ∈ wAll := wI4 235 (by decide +kernel) (by decide +kernel)
theorem w_1051 : Cond.code yX3_solve cX3_solve 6 (some .boolean) ∈ wAll := wI4 236 (by decide +kernel) (by decide +kernel)
theorem dX3_coefficient_16 : decode cX3_coefficient 16 = .ok (.ifCond .eq 29, 3) := by decide +kernel
theorem dX3_coefficient_45 : decode cX3_coefficient 45 = .ok (.iconst (-1), 1) := by decide +kernel
theorem dX3_coefficient_19 : decode cX3_coefficient 19 = .ok (.iload 5, 2) := by decide +kernel
theorem dX3_coefficient_21 : decode cX3_coefficient 21 = .ok (.iconst 0, 1) := by decide +kernel
theorem dX3_coefficient_22 : decode cX3_coefficient 22 = .ok (.aload_n 0, 1) := by decide +kernel
theorem dX3_coefficient_23 : decode cX3_coefficient 23 = .ok (.getfield 22, 3) := by decide +kernel
theorem dX3_coefficient_26 : decode cX3_coefficient 26 = .ok (.arraylength, 1) := by decide +kernel
theorem dX3_coefficient_27 : decode cX3_coefficient 27 = .ok (.iconst 1, 1) := by decide +kernel
theorem dX3_coefficient_28 : decode cX3_coefficient 28 = .ok (.isub, 1) := by decide +kernel
theorem dX3_coefficient_29 : decode cX3_coefficient 29 = .ok (.invokestatic 26, 3) := by decide +kernel
theorem dX3_coefficient_32 : decode cX3_coefficient 32 = .ok (.ifCond .eq 13, 3) := by decide +kernel
theorem dX3_coefficient_35 : decode cX3_coefficient 35 = .ok (.aload_n 0, 1) := by decide +kernel
theorem dX3_coefficient_36 : decode cX3_coefficient 36 = .ok (.getfield 22, 3) := by decide +kernel
theorem dX3_coefficient_39 : decode cX3_coefficient 39 = .ok (.iload 5, 2) := by decide +kernel
theorem dX3_coefficient_41 : decode cX3_coefficient 41 = .ok (.iaload, 1) := by decide +kernel
theorem dX3_coefficient_42 : decode cX3_coefficient 42 = .ok (.goto 4, 3) := by decide +kernel
theorem dX3_coefficient_46 : decode cX3_coefficient 46 = .ok (.ireturn, 1) := by decide +kernel
theorem dX3_failing_0 : decode cX3_failing 0 = .ok (.aload_n 0, 1) := by decide +kernel
theorem dX3_failing_1 : decode cX3_failing 1 = .ok (.iload_n 1, 1) := by decide +kernel
theorem dX3_failing_2 : decode cX3_failing 2 = .ok (.iload_n 2, 1) := by decide +kernel
theorem dX3_failing_3 : decode cX3_failing 3 = .ok (.invokevirtual 52, 3) := by decide +kernel
theorem dX3_failing_6 : decode cX3_failing 6 = .ok (.ifCond .eq 12, 3) := by decide +kernel
theorem dX3_failing_18 : decode cX3_failing 18 = .ok (.bipush (-2), 2) := by decide +kernel
theorem dX3_failing_9 : decode cX3_failing 9 = .ok (.aload_n 0, 1) := by decide +kernel
theorem dX3_failing_10 : decode cX3_failing 10 = .ok (.iload_n 1, 1) := by decide +kernel
theorem dX3_failing_11 : decode cX3_failing 11 = .ok (.iload_n 2, 1) := by decide +kernel
theorem dX3_failing_12 : decode cX3_failing 12 = .ok (.invokevirtual 56, 3) := by decide +kernel
theorem w_1075 : Cond.methodLink "QuarterWalks$Guess" 56 yX3_firstMiss ∈ wAll := wI5 20 (by decide +kernel) (by decide +kernel)
theorem w_30 : Cond.selects yX3_firstMiss.cls yX3_firstMiss yX3_firstMiss ∈ wAll := wIn 30 (by decide +kernel) (by decide +kernel)
theorem mk_X3_firstMiss : mk yX3_firstMiss 2 := ⟨by decide +kernel, w_105⟩
theorem w_1077 : Cond.instanceMethod yX3_firstMiss ∈ wAll := wI5 22 (by decide +kernel) (by decide +kernel)
theorem w_1078 : Cond.code yX3_firstMiss cX3_firstMiss 9 (some .int) ∈ wAll := wI5 23 (by decide +kernel) (by decide +kernel)
theorem dX3_failing_15 : decode cX3_failing 15 = .ok (.goto 5, 3) := by decide +kernel
theorem dX3_failing_20 : decode cX3_failing 20 = .ok (.ireturn, 1) := by decide +kernel
theorem dX3_smallest_0 : decode cX3_smallest 0 = .ok (.iconst 2, 1) := by decide +kernel
theorem dX3_smallest_1 : decode cX3_smallest 1 = .ok (.istore_n 1, 1) := by decide +kernel
theorem dX3_smallest_2 : decode cX3_smallest 2 = .ok (.iload_n 1, 1) := by decide +kernel
theorem dX3_smallest_3 : decode cX3_smallest 3 = .ok (.bipush 28, 2) := by decide +kernel
theorem dX3_smallest_5 : decode cX3_smallest 5 = .ok (.if_icmp .gt 88, 3) := by decide +kernel
theorem dX3_smallest_8 : decode cX3_smallest 8 = .ok (.iconst 1, 1) := by decide +kernel
theorem dX3_smallest_9 : decode cX3_smallest 9 = .ok (.istore_n 2, 1) := by decide +kernel
theorem dX3_smallest_10 : decode cX3_smallest 10 = .ok (.iload_n 2, 1) := by decide +kernel
theorem dX3_smallest_11 : decode cX3_smallest 11 = .ok (.iconst 4, 1) := by decide +kernel
theorem dX3_smallest_12 : decode cX3_smallest 12 = .ok (.if_icmp .gt 75, 3) := by decide +kernel
theorem dX3_smallest_15 : decode cX3_smallest 15 = .ok (.iload_n 1, 1) := by decide +kernel
theorem dX3_smallest_16 : decode cX3_smallest 16 = .ok (.iload_n 2, 1) := by decide +kernel
theorem dX3_smallest_17 : decode cX3_smallest 17 = .ok (.iconst 1, 1) := by decide +kernel
theorem dX3_smallest_18 : decode cX3_smallest 18 = .ok (.iadd, 1) := by decide +kernel
theorem dX3_smallest_19 : decode cX3_smallest 19 = .ok (.idiv, 1) := by decide +kernel
theorem dX3_smallest_20 : decode cX3_smallest 20 = .ok (.iconst 1, 1) := by decide +kernel
theorem dX3_smallest_21 : decode cX3_smallest 21 = .ok (.isub, 1) := by decide +kernel
theorem dX3_smallest_22 : decode cX3_smallest 22 = .ok (.istore_n 3, 1) := by decide +kernel
theorem dX3_smallest_23 : decode cX3_smallest 23 = .ok (.iload_n 1, 1) := by decide +kernel
theorem dX3_smallest_24 : decode cX3_smallest 24 = .ok (.iload_n 2, 1) := by decide +kernel
theorem dX3_smallest_25 : decode cX3_smallest 25 = .ok (.iconst 1, 1) := by decide +kernel
theorem dX3_smallest_26 : decode cX3_smallest 26 = .ok (.iadd, 1) := by decide +kernel
theorem dX3_smallest_27 : decode cX3_smallest 27 = .ok (.irem, 1) := by decide +kernel
theorem dX3_smallest_28 : decode cX3_smallest 28 = .ok (.ifCond .ne 19, 3) := by decide +kernel
theorem dX3_smallest_47 : decode cX3_smallest 47 = .ok (.iconst 0, 1) := by decide +kernel
theorem dX3_smallest_48 : decode cX3_smallest 48 = .ok (.istore 4, 2) := by decide +kernel
theorem dX3_smallest_50 : decode cX3_smallest 50 = .ok (.iload 4, 2) := by decide +kernel
theorem dX3_smallest_52 : decode cX3_smallest 52 = .ok (.ifCond .eq 29, 3) := by decide +kernel
theorem dX3_smallest_81 : decode cX3_smallest 81 = .ok (.iinc 2 1, 3) := by decide +kernel
theorem dX3_smallest_84 : decode cX3_smallest 84 = .ok (.goto (-74), 3) := by decide +kernel
theorem dX3_smallest_31 : decode cX3_smallest 31 = .ok (.aload_n 0, 1) := by decide +kernel
theorem dX3_smallest_32 : decode cX3_smallest 32 = .ok (.getfield 30, 3) := by decide +kernel
theorem dX3_smallest_35 : decode cX3_smallest 35 = .ok (.iload_n 2, 1) := by decide +kernel
theorem dX3_smallest_36 : decode cX3_smallest 36 = .ok (.iload_n 3, 1) := by decide +kernel
theorem dX3_smallest_37 : decode cX3_smallest 37 = .ok (.invokestatic 81, 3) := by decide +kernel
theorem w_1095 : Cond.methodLink "QuarterWalks$Guess" 81 yX3_isShape ∈ wAll := wI5 40 (by decide +kernel) (by decide +kernel)
theorem mk_X3_isShape : mk yX3_isShape 3 := ⟨by decide +kernel, w_105⟩
theorem w_1031 : Cond.static yX3_isShape ∈ wAll := wI4 216 (by decide +kernel) (by decide +kernel)
theorem w_1032 : Cond.code yX3_isShape cX3_isShape 3 (some .boolean) ∈ wAll := wI4 217 (by decide +kernel) (by decide +kernel)
theorem dX3_smallest_40 : decode cX3_smallest 40 = .ok (.ifCond .eq 7, 3) := by decide +kernel
theorem dX3_smallest_43 : decode cX3_smallest 43 = .ok (.iconst 1, 1) := by decide +kernel
theorem dX3_smallest_44 : decode cX3_smallest 44 = .ok (.goto 4, 3) := by decide +kernel
theorem dX3_smallest_55 : decode cX3_smallest 55 = .ok (.aload_n 0, 1) := by decide +kernel
theorem dX3_smallest_56 : decode cX3_smallest 56 = .ok (.iload_n 2, 1) := by decide +kernel
theorem dX3_smallest_57 : decode cX3_smallest 57 = .ok (.iload_n 3, 1) := by decide +kernel
theorem dX3_smallest_58 : decode cX3_smallest 58 = .ok (.invokevirtual 52, 3) := by decide +kernel
theorem dX3_smallest_61 : decode cX3_smallest 61 = .ok (.ifCond .eq 20, 3) := by decide +kernel
theorem dX3_smallest_64 : decode cX3_smallest 64 = .ok (.aload_n 0, 1) := by decide +kernel
theorem dX3_smallest_65 : decode cX3_smallest 65 = .ok (.iload_n 2, 1) := by decide +kernel
theorem dX3_smallest_66 : decode cX3_smallest 66 = .ok (.iload_n 3, 1) := by decide +kernel
theorem dX3_smallest_67 : decode cX3_smallest 67 = .ok (.invokevirtual 56, 3) := by decide +kernel
theorem dX3_smallest_70 : decode cX3_smallest 70 = .ok (.iconst (-1), 1) := by decide +kernel
theorem dX3_smallest_71 : decode cX3_smallest 71 = .ok (.if_icmp .ne 10, 3) := by decide +kernel
theorem dX3_smallest_74 : decode cX3_smallest 74 = .ok (.bipush 10, 2) := by decide +kernel
theorem dX3_smallest_76 : decode cX3_smallest 76 = .ok (.iload_n 2, 1) := by decide +kernel
theorem dX3_smallest_77 : decode cX3_smallest 77 = .ok (.imul, 1) := by decide +kernel
theorem dX3_smallest_78 : decode cX3_smallest 78 = .ok (.iload_n 3, 1) := by decide +kernel
theorem dX3_smallest_79 : decode cX3_smallest 79 = .ok (.iadd, 1) := by decide +kernel
theorem dX3_smallest_87 : decode cX3_smallest 87 = .ok (.iinc 1 1, 3) := by decide +kernel
theorem dX3_smallest_90 : decode cX3_smallest 90 = .ok (.goto (-88), 3) := by decide +kernel
theorem dX3_smallest_93 : decode cX3_smallest 93 = .ok (.iconst (-1), 1) := by decide +kernel
theorem dX3_smallest_80 : decode cX3_smallest 80 = .ok (.ireturn, 1) := by decide +kernel
theorem dX3_smallest_94 : decode cX3_smallest 94 = .ok (.ireturn, 1) := by decide +kernel
theorem dX3_isShape_30 : decode cX3_isShape 30 = .ok (.iload_n 1, 1) := by decide +kernel
theorem dX3_isShape_31 : decode cX3_isShape 31 = .ok (.iconst 1, 1) := by decide +kernel
theorem dX3_isShape_32 : decode cX3_isShape 32 = .ok (.iconst 3, 1) := by decide +kernel
theorem dX3_isShape_33 : decode cX3_isShape 33 = .ok (.invokestatic 26, 3) := by decide +kernel
theorem dX3_isShape_36 : decode cX3_isShape 36 = .ok (.ifCond .eq 17, 3) := by decide +kernel
theorem dX3_isShape_53 : decode cX3_isShape 53 = .ok (.iconst 0, 1) := by decide +kernel
theorem dX3_isShape_39 : decode cX3_isShape 39 = .ok (.iload_n 2, 1) := by decide +kernel
theorem dX3_isShape_40 : decode cX3_isShape 40 = .ok (.iconst 0, 1) := by decide +kernel
theorem dX3_isShape_41 : decode cX3_isShape 41 = .ok (.bipush 6, 2) := by decide +kernel
theorem dX3_isShape_43 : decode cX3_isShape 43 = .ok (.invokestatic 26, 3) := by decide +kernel
theorem dX3_isShape_46 : decode cX3_isShape 46 = .ok (.ifCond .eq 7, 3) := by decide +kernel
theorem dX3_isShape_49 : decode cX3_isShape 49 = .ok (.iconst 1, 1) := by decide +kernel
theorem dX3_isShape_50 : decode cX3_isShape 50 = .ok (.goto 4, 3) := by decide +kernel
theorem dX3_load_78 : decode cX3_load 78 = .ok (.aload_n 0, 1) := by decide +kernel
theorem dX3_load_79 : decode cX3_load 79 = .ok (.getfield 17, 3) := by decide +kernel
theorem dX3_load_82 : decode cX3_load 82 = .ok (.iconst 1, 1) := by decide +kernel
theorem dX3_load_83 : decode cX3_load 83 = .ok (.aaload, 1) := by decide +kernel
theorem dX3_load_84 : decode cX3_load 84 = .ok (.aload_n 0, 1) := by decide +kernel
theorem dX3_load_85 : decode cX3_load 85 = .ok (.getfield 17, 3) := by decide +kernel
theorem dX3_load_88 : decode cX3_load 88 = .ok (.iconst 1, 1) := by decide +kernel
theorem dX3_load_89 : decode cX3_load 89 = .ok (.aaload, 1) := by decide +kernel
theorem dX3_load_90 : decode cX3_load 90 = .ok (.aload_n 0, 1) := by decide +kernel
theorem dX3_load_91 : decode cX3_load 91 = .ok (.getfield 17, 3) := by decide +kernel
theorem dX3_load_94 : decode cX3_load 94 = .ok (.iconst 2, 1) := by decide +kernel
theorem dX3_load_95 : decode cX3_load 95 = .ok (.aaload, 1) := by decide +kernel
theorem dX3_load_96 : decode cX3_load 96 = .ok (.invokestatic 40, 3) := by decide +kernel
theorem w_1039 : Cond.methodLink "QuarterWalks$Guess" 40 yX3_multiply ∈ wAll := wI4 224 (by decide +kernel) (by decide +kernel)
theorem mk_X3_multiply : mk yX3_multiply 3 := ⟨by decide +kernel, w_105⟩
theorem w_1040 : Cond.static yX3_multiply ∈ wAll := wI4 225 (by decide +kernel) (by decide +kernel)
theorem w_1041 : Cond.code yX3_multiply cX3_multiply 7 none ∈ wAll := wI4 226 (by decide +kernel) (by decide +kernel)
theorem dX3_load_99 : decode cX3_load 99 = .ok (.aload_n 0, 1) := by decide +kernel
theorem dX3_load_100 : decode cX3_load 100 = .ok (.getfield 17, 3) := by decide +kernel
theorem dX3_load_103 : decode cX3_load 103 = .ok (.iconst 2, 1) := by decide +kernel
theorem dX3_load_104 : decode cX3_load 104 = .ok (.aaload, 1) := by decide +kernel
theorem dX3_load_105 : decode cX3_load 105 = .ok (.aload_n 0, 1) := by decide +kernel
theorem dX3_load_106 : decode cX3_load 106 = .ok (.getfield 17, 3) := by decide +kernel
theorem dX3_load_109 : decode cX3_load 109 = .ok (.iconst 1, 1) := by decide +kernel
theorem dX3_load_110 : decode cX3_load 110 = .ok (.aaload, 1) := by decide +kernel
theorem dX3_load_111 : decode cX3_load 111 = .ok (.aload_n 0, 1) := by decide +kernel
theorem dX3_load_112 : decode cX3_load 112 = .ok (.getfield 17, 3) := by decide +kernel
theorem dX3_load_115 : decode cX3_load 115 = .ok (.iconst 3, 1) := by decide +kernel
theorem dX3_load_116 : decode cX3_load 116 = .ok (.aaload, 1) := by decide +kernel
theorem dX3_load_117 : decode cX3_load 117 = .ok (.invokestatic 40, 3) := by decide +kernel
theorem dX3_factor_8 : decode cX3_factor 8 = .ok (.iload_n 3, 1) := by decide +kernel
theorem dX3_factor_9 : decode cX3_factor 9 = .ok (.iload_n 2, 1) := by decide +kernel
theorem dX3_factor_10 : decode cX3_factor 10 = .ok (.if_icmp .ge 7, 3) := by decide +kernel
theorem dX3_factor_17 : decode cX3_factor 17 = .ok (.aload_n 0, 1) := by decide +kernel
theorem dX3_factor_18 : decode cX3_factor 18 = .ok (.getfield 17, 3) := by decide +kernel
theorem dX3_factor_21 : decode cX3_factor 21 = .ok (.iload_n 1, 1) := by decide +kernel
theorem dX3_factor_22 : decode cX3_factor 22 = .ok (.aaload, 1) := by decide +kernel
theorem dX3_factor_23 : decode cX3_factor 23 = .ok (.iload_n 3, 1) := by decide +kernel
theorem dX3_factor_24 : decode cX3_factor 24 = .ok (.iload_n 2, 1) := by decide +kernel
theorem dX3_factor_25 : decode cX3_factor 25 = .ok (.isub, 1) := by decide +kernel
theorem dX3_factor_26 : decode cX3_factor 26 = .ok (.iaload, 1) := by decide +kernel
theorem dX3_factor_13 : decode cX3_factor 13 = .ok (.iconst 0, 1) := by decide +kernel
theorem dX3_factor_14 : decode cX3_factor 14 = .ok (.goto 13, 3) := by decide +kernel
theorem dX3_factor_27 : decode cX3_factor 27 = .ok (.ireturn, 1) := by decide +kernel
theorem dX3_firstMiss_16 : decode cX3_firstMiss 16 = .ok (.bipush 60, 2) := by decide +kernel
theorem dX3_firstMiss_18 : decode cX3_firstMiss 18 = .ok (.goto 7, 3) := by decide +kernel
abbrev rm_s_X9_cell : Room := { frames := 0, cells := 0, slots := 0, locals := 0 }
set_option maxRecDepth 100000 in
set_option maxHeartbeats 4000000 in
theorem s_X9_cell (l : Launch) (D : va_G) (G : Nat → Nat) (b0 : Nat) (τ : Nat → Nat) (f : hM) (t : TI G 9 τ f) (u0 : Nat) (hu0 : τ u0 = 30) (u1 : Int32) (hu1 : iv u1 (-100) 100) (u2 : Int32) (hu2 : iv u2 (-100) 100) (sx : Int32) (hsx : iv sx 0 9) (k_u0_2 : atp f u0 (fd 2 (.int sx))) (sy : Int32) (hsy : iv sy 0 9) (k_u0_3 : atp f u0 (fd 3 (.int sy))) : mI l yX9_cell cX9_cell 3 (.int) rm_s_X9_cell D G b0 f [.ref u0, .int u1, .int u2] (fun r f1 => iv r (-2178) 2420 ∧ TI G 9 τ f1 ∧ Fr [] τ f f1 ∧ (r.toInt = (u1.toInt - sx.toInt + 10) * 21 + (u2.toInt - sy.toInt) + 10)) := by
  refine met2 (own := RX9) (by decide) rfl (Nat.le_of_ble_eq_true rfl) ?_
  intro p e s m args below meth c ls Q hQ C hr hini hl h
  have hl : lv_has ls 3 [(0, .ref u0), (1, .int u1), (2, .int u2)] := hl
  obtain ⟨hx, hb, hml, hown, hts, hE0, hlk⟩ := id C
  have o := Fr.rf [] τ f
  refine lv_iload_n hx hb dX9_cell_0 rfl (lv_at hl 1 rfl) ?_
  refine lv_aload_n hx hb dX9_cell_1 rfl (lv_at hl 0 rfl) ?_
  refine t_getfd C h t hu0 (by decide) wf_30 (v := .int sx) k_u0_2 fl_X9_34 dX9_cell_2 ?_
  refine i_sub hx hb dX9_cell_5 hu1 hsx (lo := (-109)) (hi := 100) (by decide) (fun z1 ez1 mz1 iz1 => ?_)
  refine lv_bipush (v := 10) hx hb dX9_cell_6 (by decide) ?_
  refine i_addk hx hb dX9_cell_8 iz1 (k := 10) rfl (lo := (-99)) (hi := 110) (by decide) (fun z2 ez2 mz2 iz2 => ?_)
  refine lv_bipush (v := 21) hx hb dX9_cell_9 (by decide) ?_
  refine i_mulc hx hb dX9_cell_11 iz2 (k := 21) rfl (lo := (-2079)) (hi := 2310) (by decide) (fun z3 ez3 mz3 iz3 => ?_)
  refine lv_iload_n hx hb dX9_cell_12 rfl (lv_at hl 2 rfl) ?_
  refine i_add hx hb dX9_cell_13 iz3 hu2 (lo := (-2179)) (hi := 2410) (by decide) (fun z4 ez4 mz4 iz4 => ?_)
  refine lv_aload_n hx hb dX9_cell_14 rfl (lv_at hl 0 rfl) ?_
  refine t_getfd C h t hu0 (by decide) wf_30 (v := .int sy) k_u0_3 fl_X9_38 dX9_cell_15 ?_
  refine i_sub hx hb dX9_cell_18 iz4 hsy (lo := (-2188)) (hi := 2410) (by decide) (fun z5 ez5 mz5 iz5 => ?_)
  refine lv_bipush (v := 10) hx hb dX9_cell_19 (by decide) ?_
  refine i_addk hx hb dX9_cell_21 iz5 (k := 10) rfl (lo := (-2178)) (hi := 2420) (by decide) (fun z6 ez6 mz6 iz6 => ?_)
  exact u_iret C h hr hQ (⟨iz6, t, o, (by omega)⟩) (Nat.le_of_ble_eq_true rfl) (Nat.le_of_ble_eq_true rfl) dX9_cell_22
abbrev rm_s_X9_ways : Room := { frames := 1, cells := 0, slots := 0, locals := 22 }
set_option maxRecDepth 100000 in
set_option maxHeartbeats 4000000 in
theorem s_X9_ways (l : Launch) (D : va_G) (G : Nat → Nat) (b0 : Nat) (τ : Nat → Nat) (f : hM) (t : TI G 9 τ f) (u0 : Nat) (hu0 : τ u0 = 30) (u1 : Int32) (hu1 : iv u1 (-2147483648) 2147483647) (u2 : Int32) (hu2 : iv u2 (-100) 100) (u3 : Int32) (hu3 : iv u3 (-100) 100) : mI l yX9_ways cX9_ways 5 (.int) rm_s_X9_ways D G b0 f [.ref u0, .int u1, .int u2, .int u3] (fun r f1 => iv r (-2147483648) 2147483647 ∧ TI G 9 τ f1 ∧ Fr [] τ f f1) := by
  refine met2 (own := RX9) (by decide) rfl (Nat.le_of_ble_eq_true rfl) ?_
  intro p e s m args below meth c ls Q hQ C hr hini hl h
  have hl : lv_has ls 5 [(0, .ref u0), (1, .int u1), (2, .int u2), (3, .int u3)] := hl
  obtain ⟨hx, hb, hml, hown, hts, hE0, hlk⟩ := id C
  have o := Fr.rf [] τ f
  obtain ⟨sx, isx, ksx⟩ := t_fint (k := 2) t hu0 (by decide) wf_30 rfl
  obtain ⟨sy, isy, ksy⟩ := t_fint (k := 3) t hu0 (by decide) wf_30 rfl
  refine lv_iload_n hx hb dX9_ways_0 rfl (lv_at hl 2 rfl) ?_
  refine lv_aload_n hx hb dX9_ways_1 rfl (lv_at hl 0 rfl) ?_
  refine t_getfd C h t hu0 (by decide) wf_30 (v := .int sx) ksx fl_X9_34 dX9_ways_2 ?_
  refine i_sub hx hb dX9_ways_5 hu2 isx (lo := (-109)) (hi := 100) (by decide) (fun z1 ez1 mz1 iz1 => ?_)
  refine lv_bipush (v := -10) hx hb dX9_ways_6 (by decide) ?_
  refine lv_bipush (v := 10) hx hb dX9_ways_8 (by decide) ?_
  refine k_i (r_SN C h hl (host := "QuarterWalks") (As := [.int z1, .int (-10), .int 10]) (rest := []) (s_X10_within l D G b0 τ f t z1 (iv_w iz1 (by decide)) (-10) (iv_w (iv_k (x := (-10)) (k := (-10)) rfl) (by decide)) 10 (iv_w (iv_k (x := 10) (k := 10) rfl) (by decide))) mk_X10_within (by decide) w_426 w_427 ⟨Nat.le_of_ble_eq_true rfl, Nat.le_of_ble_eq_true rfl⟩ rfl (Nat.le_of_ble_eq_true rfl) ⟨Nat.le_of_ble_eq_true rfl, Nat.le_of_ble_eq_true rfl⟩ rfl dX9_ways_10) h (fun r2 f3 H locs p4 h => ?_)
  have n5 : (-10 : Int32).toInt = (-10) := rfl
  have n6 : (10 : Int32).toInt = 10 := rfl
  obtain ⟨ir2, tf3, ogf3, cnr2, czr2⟩ := p4
  have egf3 := Fr.nil2 ogf3
  subst egf3
  refine lv_if_eq (tgt := 36) hx hb dX9_ways_13 (by decide) (fun c7 => ?_) (fun c7 => ?_)
  · have c8 : r2.toInt = 0 := congrArg Int32.toInt c7
    have i9 : iv r2 0 0 := iv_Q c8 ir2 (iv_k (x := 0) (k := 0) rfl) (by decide)
    have i10 := czr2 c8
    refine lv_iconst (v := 0) hx hb dX9_ways_36 (by decide) ?_
    refine lv_istore (lv' := [(4, .int 0), (0, .ref u0), (1, .int u1), (2, .int u2), (3, .int u3)]) hx hb dX9_ways_37 hl (by decide) rfl (fun ls hl => ?_)
    refine lv_iload hx hb dX9_ways_39 (lv_at hl 0 rfl) ?_
    refine lv_if_eq (tgt := 78) hx hb dX9_ways_41 (by decide) (fun c16 => ?_) (fun c16 => ?_)
    · refine lv_iconst (v := 0) hx hb dX9_ways_78 (by decide) ?_
      exact u_iret C h hr hQ (⟨⟨by decide, by decide⟩, t, o⟩) (Nat.le_of_ble_eq_true rfl) (Nat.le_of_ble_eq_true rfl) dX9_ways_79
    · exact absurd c16 (by decide)
  · have c11 : r2.toInt ≠ 0 := fun z_ => c7 (Int32.toInt_inj.mp z_)
    have i12 : iv r2 1 1 := iv_Nl c11 ir2 (by decide)
    obtain ⟨i13, i14⟩ := cnr2 c11
    have i15 : iv z1 (-10) 10 := ⟨by omega, by omega⟩
    refine lv_iload_n hx hb dX9_ways_16 rfl (lv_at hl 3 rfl) ?_
    refine lv_aload_n hx hb dX9_ways_17 rfl (lv_at hl 0 rfl) ?_
    refine t_getfd C h t hu0 (by decide) wf_30 (v := .int sy) ksy fl_X9_38 dX9_ways_18 ?_
    refine i_sub hx hb dX9_ways_21 hu3 isy (lo := (-109)) (hi := 100) (by decide) (fun z19 ez19 mz19 iz19 => ?_)
    refine lv_bipush (v := -10) hx hb dX9_ways_22 (by decide) ?_
    refine lv_bipush (v := 10) hx hb dX9_ways_24 (by decide) ?_
    refine k_i (r_SN C h hl (host := "QuarterWalks") (As := [.int z19, .int (-10), .int 10]) (rest := []) (s_X10_within l D G b0 τ f t z19 (iv_w iz19 (by decide)) (-10) (iv_w (iv_k (x := (-10)) (k := (-10)) rfl) (by decide)) 10 (iv_w (iv_k (x := 10) (k := 10) rfl) (by decide))) mk_X10_within (by decide) w_426 w_427 ⟨Nat.le_of_ble_eq_true rfl, Nat.le_of_ble_eq_true rfl⟩ rfl (Nat.le_of_ble_eq_true rfl) ⟨Nat.le_of_ble_eq_true rfl, Nat.le_of_ble_eq_true rfl⟩ rfl dX9_ways_26) h (fun r20 f21 H locs p22 h => ?_)
    have n23 : (-10 : Int32).toInt = (-10) := rfl
    have n24 : (10 : Int32).toInt = 10 := rfl
    obtain ⟨ir20, tf21, ogf21, cnr20, czr20⟩ := p22
    have egf21 := Fr.nil2 ogf21
    subst egf21
    refine lv_if_eq (tgt := 36) hx hb dX9_ways_29 (by decide) (fun c25 => ?_) (fun c25 => ?_)
    · have c26 : r20.toInt = 0 := congrArg Int32.toInt c25
      have i27 : iv r20 0 0 := iv_Q c26 ir20 (iv_k (x := 0) (k := 0) rfl) (by decide)
      have i28 := czr20 c26
      refine lv_iconst (v := 0) hx hb dX9_ways_36 (by decide) ?_
      refine lv_istore (lv' := [(4, .int 0), (0, .ref u0), (1, .int u1), (2, .int u2), (3, .int u3)]) hx hb dX9_ways_37 hl (by decide) rfl (fun ls hl => ?_)
      refine lv_iload hx hb dX9_ways_39 (lv_at hl 0 rfl) ?_
      refine lv_if_eq (tgt := 78) hx hb dX9_ways_41 (by decide) (fun c34 => ?_) (fun c34 => ?_)
      · refine lv_iconst (v := 0) hx hb dX9_ways_78 (by decide) ?_
        exact u_iret C h hr hQ (⟨⟨by decide, by decide⟩, t, o⟩) (Nat.le_of_ble_eq_true rfl) (Nat.le_of_ble_eq_true rfl) dX9_ways_79
      · exact absurd c34 (by decide)
    · have c29 : r20.toInt ≠ 0 := fun z_ => c25 (Int32.toInt_inj.mp z_)
      have i30 : iv r20 1 1 := iv_Nl c29 ir20 (by decide)
      obtain ⟨i31, i32⟩ := cnr20 c29
      have i33 : iv z19 (-10) 10 := ⟨by omega, by omega⟩
      refine lv_iconst (v := 1) hx hb dX9_ways_32 (by decide) ?_
      refine lv_goto (tgt := 37) hx hb dX9_ways_33 (by decide) ?_
      refine lv_istore (lv' := [(4, .int 1), (0, .ref u0), (1, .int u1), (2, .int u2), (3, .int u3)]) hx hb dX9_ways_37 hl (by decide) rfl (fun ls hl => ?_)
      refine lv_iload hx hb dX9_ways_39 (lv_at hl 0 rfl) ?_
      refine lv_if_eq (tgt := 78) hx hb dX9_ways_41 (by decide) (fun c37 => ?_) (fun c37 => ?_)
      · exact absurd c37 (by decide)
      · refine lv_iload_n hx hb dX9_ways_44 rfl (lv_at hl 3 rfl) ?_
        refine lv_if_lt (tgt := 78) hx hb dX9_ways_45 (by decide) (fun c40 => ?_) (fun c40 => ?_)
        · have c41 : u2.toInt < 0 := Int32.lt_iff_toInt_lt.mp c40
          have i42 : iv u2 (-100) (-1) := iv_Ll c41 hu2 (iv_k (x := 0) (k := 0) rfl) (by decide)
          refine lv_iconst (v := 0) hx hb dX9_ways_78 (by decide) ?_
          exact u_iret C h hr hQ (⟨⟨by decide, by decide⟩, t, o⟩) (Nat.le_of_ble_eq_true rfl) (Nat.le_of_ble_eq_true rfl) dX9_ways_79
        · have c43 : 0 ≤ u2.toInt := Int32.le_iff_toInt_le.mp (iv_nlt c40)
          have i44 : iv u2 0 100 := iv_Er c43 (iv_k (x := 0) (k := 0) rfl) hu2 (by decide)
          refine lv_iload_n hx hb dX9_ways_48 rfl (lv_at hl 4 rfl) ?_
          refine lv_if_lt (tgt := 78) hx hb dX9_ways_49 (by decide) (fun c45 => ?_) (fun c45 => ?_)
          · have c46 : u3.toInt < 0 := Int32.lt_iff_toInt_lt.mp c45
            have i47 : iv u3 (-100) (-1) := iv_Ll c46 hu3 (iv_k (x := 0) (k := 0) rfl) (by decide)
            refine lv_iconst (v := 0) hx hb dX9_ways_78 (by decide) ?_
            exact u_iret C h hr hQ (⟨⟨by decide, by decide⟩, t, o⟩) (Nat.le_of_ble_eq_true rfl) (Nat.le_of_ble_eq_true rfl) dX9_ways_79
          · have c48 : 0 ≤ u3.toInt := Int32.le_iff_toInt_le.mp (iv_nlt c45)
            have i49 : iv u3 0 100 := iv_Er c48 (iv_k (x := 0) (k := 0) rfl) hu3 (by decide)
            refine lv_iload_n hx hb dX9_ways_52 rfl (lv_at hl 2 rfl) ?_
            refine lv_iconst (v := 0) hx hb dX9_ways_53 (by decide) ?_
            refine lv_bipush (v := 10) hx hb dX9_ways_54 (by decide) ?_
            refine k_i (r_SN C h hl (host := "QuarterWalks") (As := [.int u1, .int 0, .int 10]) (rest := []) (s_X10_within l D G b0 τ f t u1 hu1 0 (iv_w (iv_k (x := 0) (k := 0) rfl) (by decide)) 10 (iv_w (iv_k (x := 10) (k := 10) rfl) (by decide))) mk_X10_within (by decide) w_426 w_427 ⟨Nat.le_of_ble_eq_true rfl, Nat.le_of_ble_eq_true rfl⟩ rfl (Nat.le_of_ble_eq_true rfl) ⟨Nat.le_of_ble_eq_true rfl, Nat.le_of_ble_eq_true rfl⟩ rfl dX9_ways_56) h (fun r50 f51 H locs p52 h => ?_)
            have n53 : (0 : Int32).toInt = 0 := rfl
            have n54 : (10 : Int32).toInt = 10 := rfl
            obtain ⟨ir50, tf51, ogf51, cnr50, czr50⟩ := p52
            have egf51 := Fr.nil2 ogf51
            subst egf51
            refine lv_if_eq (tgt := 78) hx hb dX9_ways_59 (by decide) (fun c55 => ?_) (fun c55 => ?_)
            · have c56 : r50.toInt = 0 := congrArg Int32.toInt c55
              have i57 : iv r50 0 0 := iv_Q c56 ir50 (iv_k (x := 0) (k := 0) rfl) (by decide)
              have i58 := czr50 c56
              refine lv_iconst (v := 0) hx hb dX9_ways_78 (by decide) ?_
              exact u_iret C h hr hQ (⟨⟨by decide, by decide⟩, t, o⟩) (Nat.le_of_ble_eq_true rfl) (Nat.le_of_ble_eq_true rfl) dX9_ways_79
            · have c59 : r50.toInt ≠ 0 := fun z_ => c55 (Int32.toInt_inj.mp z_)
              have i60 : iv r50 1 1 := iv_Nl c59 ir50 (by decide)
              obtain ⟨i61, i62⟩ := cnr50 c59
              have i63 : iv u1 0 10 := ⟨by omega, by omega⟩
              refine lv_aload_n hx hb dX9_ways_62 rfl (lv_at hl 1 rfl) ?_
              refine t_getr (tq := 31) C h t hu0 (by decide) wf_30 rfl fl_X9_13 dX9_ways_63 (fun q64 tq64 => ?_)
              refine lv_iload_n hx hb dX9_ways_66 rfl (lv_at hl 2 rfl) ?_
              refine t_aaldA C h t (g := 5) rfl tq64 (by decide) wf_31 (iv_in i63 (by decide)) dX9_ways_67 (fun q65 tq65 => ?_)
              refine lv_aload_n hx hb dX9_ways_68 rfl (lv_at hl 1 rfl) ?_
              refine lv_iload_n hx hb dX9_ways_69 rfl (lv_at hl 3 rfl) ?_
              refine lv_iload_n hx hb dX9_ways_70 rfl (lv_at hl 4 rfl) ?_
              obtain ⟨_, r66⟩ := t_rec t hu0 (by decide) wf_30
              refine k_i (r_V C h hl (As := [.int u2, .int u3]) (rest := [.ref q65]) (s_X9_cell l D G b0 τ f t u0 hu0 u2 (iv_w i44 (by decide)) u3 (iv_w i49 (by decide)) sx isx ksx sy isy ksy) r66 (Cn := RX9) (T := TX9) (N := 4) rfl rfl mk_X9_cell w_870 w_872 w_23 w_873 ⟨Nat.le_of_ble_eq_true rfl, Nat.le_of_ble_eq_true rfl⟩ rfl (Nat.le_of_ble_eq_true rfl) ⟨Nat.le_of_ble_eq_true rfl, Nat.le_of_ble_eq_true rfl⟩ rfl dX9_ways_71) h (fun r67 f68 H locs p69 h => ?_)
              obtain ⟨ir67, tf68, ogf68, x0r67⟩ := p69
              have egf68 := Fr.nil2 ogf68
              subst egf68
              refine t_iald C h t tq65 (by decide) wf_32 (ix_o (by omega)) dX9_ways_74 (fun z70 iz70 => ?_)
              refine lv_goto (tgt := 79) hx hb dX9_ways_75 (by decide) ?_
              exact u_iret C h hr hQ (⟨iz70, t, o⟩) (Nat.le_of_ble_eq_true rfl) (Nat.le_of_ble_eq_true rfl) dX9_ways_79
abbrev rm_s_X9_waysOn : Room := { frames := 2, cells := 0, slots := 0, locals := 46 }
set_option maxRecDepth 100000 in
set_option maxHeartbeats 4000000 in
theorem s_X9_waysOn (l : Launch) (D : va_G) (G : Nat → Nat) (b0 : Nat) (τ : Nat → Nat) (f : hM) (t : TI G 9 τ f) (u0 : Nat) (hu0 : τ u0 = 30) (u1 : Nat) (hu1 : τ u1 = 1) (u2 : Int32) (hu2 : iv u2 (-2147483648) 2147483647) (u3 : Int32) (hu3 : iv u3 (-90) 90) (u4 : Int32) (hu4 : iv u4 (-90) 90) : mI l yX9_waysOn cX9_waysOn 7 (.int) rm_s_X9_waysOn D G b0 f [.ref u0, .ref u1, .int u2, .int u3, .int u4] (fun r f1 => iv r (-2147483648) 2147483647 ∧ TI G 9 τ f1 ∧ Fr [] τ f f1) := by
  refine met2 (own := RX9) (by decide) rfl (Nat.le_of_ble_eq_true rfl) ?_
  intro p e s m args below meth c ls Q hQ C hr hini hl h
  have hl : lv_has ls 7 [(0, .ref u0), (1, .ref u1), (2, .int u2), (3, .int u3), (4, .int u4)] := hl
  obtain ⟨hx, hb, hml, hown, hts, hE0, hlk⟩ := id C
  have o := Fr.rf [] τ f
  have L6 : ∀ (n6 : Nat) (ls : Array Slot) (f_6 : hM) (H : Heap) (locs : List Loc) (v6_5 : Int32) (v6_6 : Int32), 8 - v6_6.toInt < (n6 : Int) → lv_has ls 7 [(0, .ref u0), (1, .ref u1), (2, .int u2), (3, .int u3), (4, .int u4), (5, .int v6_5), (6, .int v6_6)] → hw D b0 s.heap f_6 H locs → TI G 9 τ f_6 → Fr [] τ f f_6 → iv v6_5 (-2147483648) 2147483647 → iv v6_6 0 8 → W p l e rm_s_X9_waysOn s m args below meth c H locs 0 0 Q (F0 m 6 ls []) := by
    intro n6
    induction n6 with
    | zero => intro ls f_6 H locs v6_5 v6_6 hm6 hl h t_6 o_6 iv6_5 iv6_6; exact absurd hm6 (by omega)
    | succ n6 ih6 =>
      intro ls f_6 H locs v6_5 v6_6 hm6 hl h t_6 o_6 iv6_5 iv6_6
      refine lv_iload hx hb dX9_waysOn_6 (lv_at hl 6 rfl) ?_
      refine lv_bipush (v := 8) hx hb dX9_waysOn_8 (by decide) ?_
      refine lv_icmp_ge (tgt := 58) hx hb dX9_waysOn_10 (by decide) (fun c1 => ?_) (fun c1 => ?_)
      · have c2 : 8 ≤ v6_6.toInt := Int32.le_iff_toInt_le.mp c1
        have i3 : iv v6_6 8 8 := iv_Er c2 (iv_k (x := 8) (k := 8) rfl) iv6_6 (by decide)
        refine lv_iload hx hb dX9_waysOn_58 (lv_at hl 5 rfl) ?_
        exact u_iret C h hr hQ (⟨iv6_5, t_6, o_6⟩) (Nat.le_of_ble_eq_true rfl) (Nat.le_of_ble_eq_true rfl) dX9_waysOn_60
      · have c4 : v6_6.toInt < 8 := Int32.lt_iff_toInt_lt.mp (iv_nle c1)
        have i5 : iv v6_6 0 7 := iv_Ll c4 iv6_6 (iv_k (x := 8) (k := 8) rfl) (by decide)
        refine lv_aload_n hx hb dX9_waysOn_13 rfl (lv_at hl 1 rfl) ?_
        refine t_getr (tq := 2) C h t_6 hu1 (by decide) wf_1 rfl fl_X9_50 dX9_waysOn_14 (fun q6 tq6 => ?_)
        refine lv_iload hx hb dX9_waysOn_17 (lv_at hl 6 rfl) ?_
        refine t_iald C h t_6 tq6 (by decide) wf_2 (iv_in i5 (by decide)) dX9_waysOn_19 (fun z7 iz7 => ?_)
        refine lv_if_eq (tgt := 52) hx hb dX9_waysOn_20 (by decide) (fun c8 => ?_) (fun c8 => ?_)
        · have c9 : z7.toInt = 0 := congrArg Int32.toInt c8
          have i10 : iv z7 0 0 := iv_Q c9 iz7 (iv_k (x := 0) (k := 0) rfl) (by decide)
          refine i_inc hx hb dX9_waysOn_52 hl (k := 6) rfl i5 rfl (lo := 1) (hi := 8) (by decide) (by decide) (lv' := fun v => [(6, .int v), (0, .ref u0), (1, .ref u1), (2, .int u2), (3, .int u3), (4, .int u4), (5, .int v6_5)]) (fun _ => rfl) (fun z13 ls ez13 mz13 iz13 hl => ?_)
          refine lv_goto (tgt := 6) hx hb dX9_waysOn_55 (by decide) ?_
          exact ih6 ls f_6 H locs v6_5 z13 (show 8 - z13.toInt < _ by omega) (lv_cons hl 1 rfl (lv_cons hl 2 rfl (lv_cons hl 3 rfl (lv_cons hl 4 rfl (lv_cons hl 5 rfl (lv_cons hl 6 rfl (lv_cons hl 0 rfl (lv_nil hl)))))))) h t_6 o_6 iv6_5 (iv_w iz13 (by decide))
        · have c11 : z7.toInt ≠ 0 := fun z_ => c8 (Int32.toInt_inj.mp z_)
          have i12 : iv z7 1 9 := iv_Nl c11 iz7 (by decide)
          refine lv_iload hx hb dX9_waysOn_23 (lv_at hl 5 rfl) ?_
          refine lv_aload_n hx hb dX9_waysOn_25 rfl (lv_at hl 0 rfl) ?_
          refine lv_iload_n hx hb dX9_waysOn_26 rfl (lv_at hl 2 rfl) ?_
          refine lv_iconst (v := 1) hx hb dX9_waysOn_27 (by decide) ?_
          refine lv_isub hx hb dX9_waysOn_28 (i_top (iv_any _) (fun z14 ez14 iz14 => ?_))
          refine lv_iload_n hx hb dX9_waysOn_29 rfl (lv_at hl 3 rfl) ?_
          refine st_getN C h (i := 0) (by decide) (by decide) dX9_waysOn_30 ?_
          refine lv_iload hx hb dX9_waysOn_33 (lv_at hl 6 rfl) ?_
          refine st_ald C h (k := 0) (by decide) st_b0 (iv_in i5 (by decide)) dX9_waysOn_35 (fun z15 ez15 iz15 => ?_)
          refine i_add hx hb dX9_waysOn_36 hu3 iz15 (lo := (-91)) (hi := 91) (by decide) (fun z16 ez16 mz16 iz16 => ?_)
          refine lv_iload hx hb dX9_waysOn_37 (lv_at hl 4 rfl) ?_
          refine st_getN C h (i := 1) (by decide) (by decide) dX9_waysOn_39 ?_
          refine lv_iload hx hb dX9_waysOn_42 (lv_at hl 6 rfl) ?_
          refine st_ald C h (k := 1) (by decide) st_b1 (iv_in i5 (by decide)) dX9_waysOn_44 (fun z17 ez17 iz17 => ?_)
          refine i_add hx hb dX9_waysOn_45 hu4 iz17 (lo := (-91)) (hi := 91) (by decide) (fun z18 ez18 mz18 iz18 => ?_)
          obtain ⟨_, r19⟩ := t_rec t_6 hu0 (by decide) wf_30
          refine k_i (r_V C h hl (As := [.int z14, .int z16, .int z18]) (rest := [.int v6_5]) (s_X9_ways l D G b0 τ f_6 t_6 u0 hu0 z14 iz14 z16 (iv_w iz16 (by decide)) z18 (iv_w iz18 (by decide))) r19 (Cn := RX9) (T := TX9) (N := 4) rfl rfl mk_X9_ways w_880 w_882 w_25 w_883 ⟨Nat.le_of_ble_eq_true rfl, Nat.le_of_ble_eq_true rfl⟩ rfl (Nat.le_of_ble_eq_true rfl) ⟨Nat.le_of_ble_eq_true rfl, Nat.le_of_ble_eq_true rfl⟩ rfl dX9_waysOn_46) h (fun r20 f21 H locs p22 h => ?_)
          obtain ⟨ir20, tf21, ogf21⟩ := p22
          have egf21 := Fr.nil2 ogf21
          subst egf21
          refine lv_iadd hx hb dX9_waysOn_49 (i_top (iv_any _) (fun z23 ez23 iz23 => ?_))
          refine lv_istore (lv' := [(5, .int z23), (0, .ref u0), (1, .ref u1), (2, .int u2), (3, .int u3), (4, .int u4), (6, .int v6_6)]) hx hb dX9_waysOn_50 hl (by decide) rfl (fun ls hl => ?_)
          refine i_inc hx hb dX9_waysOn_52 hl (k := 6) rfl i5 rfl (lo := 1) (hi := 8) (by decide) (by decide) (lv' := fun v => [(6, .int v), (5, .int z23), (0, .ref u0), (1, .ref u1), (2, .int u2), (3, .int u3), (4, .int u4)]) (fun _ => rfl) (fun z24 ls ez24 mz24 iz24 hl => ?_)
          refine lv_goto (tgt := 6) hx hb dX9_waysOn_55 (by decide) ?_
          exact ih6 ls f_6 H locs z23 z24 (show 8 - z24.toInt < _ by omega) (lv_cons hl 2 rfl (lv_cons hl 3 rfl (lv_cons hl 4 rfl (lv_cons hl 5 rfl (lv_cons hl 6 rfl (lv_cons hl 1 rfl (lv_cons hl 0 rfl (lv_nil hl)))))))) h t_6 o_6 iz23 (iv_w iz24 (by decide))
  refine lv_iconst (v := 0) hx hb dX9_waysOn_0 (by decide) ?_
  refine lv_istore (lv' := [(5, .int 0), (0, .ref u0), (1, .ref u1), (2, .int u2), (3, .int u3), (4, .int u4)]) hx hb dX9_waysOn_1 hl (by decide) rfl (fun ls hl => ?_)
  refine lv_iconst (v := 0) hx hb dX9_waysOn_3 (by decide) ?_
  refine lv_istore (lv' := [(6, .int 0), (5, .int 0), (0, .ref u0), (1, .ref u1), (2, .int u2), (3, .int u3), (4, .int u4)]) hx hb dX9_waysOn_4 hl (by decide) rfl (fun ls hl => ?_)
  exact L6 9 ls f s.heap [] 0 0 (by decide) (lv_cons hl 2 rfl (lv_cons hl 3 rfl (lv_cons hl 4 rfl (lv_cons hl 5 rfl (lv_cons hl 6 rfl (lv_cons hl 1 rfl (lv_cons hl 0 rfl (lv_nil hl)))))))) h t o ⟨by decide, by decide⟩ ⟨by decide, by decide⟩
abbrev rm_s_X9_lead : Room := { frames := 3, cells := 0, slots := 0, locals := 72 }
set_option maxRecDepth 100000 in
set_option maxHeartbeats 4000000 in
theorem s_X9_lead (l : Launch) (D : va_G) (G : Nat → Nat) (b0 : Nat) (τ : Nat → Nat) (f : hM) (t : TI G 9 τ f) (u0 : Nat) (hu0 : τ u0 = 30) (u1 : Nat) (hu1 : τ u1 = 1) (u2 : Int32) (hu2 : iv u2 (-2147483648) 2147483647) (u3 : Int32) (hu3 : iv u3 (-2147483648) 2147483647) (u4 : Int32) (hu4 : iv u4 (-2147483648) 2147483647) : mI l yX9_lead cX9_lead 10 (.int) rm_s_X9_lead D G b0 f [.ref u0, .ref u1, .int u2, .int u3, .int u4] (fun r f1 => iv r (-2147483648) 2147483647 ∧ TI G 9 τ f1 ∧ Fr [30, 32, 30002, 30003, 30004] τ f f1) := by
  refine met2 (own := RX9) (by decide) rfl (Nat.le_of_ble_eq_true rfl) ?_
  intro p e s m args below meth c ls Q hQ C hr hini hl h
  have hl : lv_has ls 10 [(0, .ref u0), (1, .ref u1), (2, .int u2), (3, .int u3), (4, .int u4)] := hl
  obtain ⟨hx, hb, hml, hown, hts, hE0, hlk⟩ := id C
  have o := Fr.rf [30, 32, 30002, 30003, 30004] τ f
  have L33 : ∀ (n33 : Nat) (ls : Array Slot) (f_33 : hM) (H : Heap) (locs : List Loc) (v33_5 : Int32) (g33_u0_2 : Int32) (g33_u0_3 : Int32), 11 - v33_5.toInt < (n33 : Int) → lv_has ls 10 [(0, .ref u0), (1, .ref u1), (3, .int u3), (4, .int u4), (5, .int v33_5)] → hw D b0 s.heap f_33 H locs → TI G 9 τ f_33 → Fr [30, 32, 30002, 30003, 30004] τ f f_33 → iv v33_5 0 11 → iv g33_u0_2 0 9 → iv g33_u0_3 0 9 → atp f_33 u0 (fd 2 (.int g33_u0_2)) → atp f_33 u0 (fd 3 (.int g33_u0_3)) → W p l e rm_s_X9_lead s m args below meth c H locs 0 0 Q (F0 m 33 ls []) := by
    intro n33
    induction n33 with
    | zero => intro ls f_33 H locs v33_5 g33_u0_2 g33_u0_3 hm33 hl h t_33 o_33 iv33_5 ig33_u0_2 ig33_u0_3 k33_u0_2 k33_u0_3; exact absurd hm33 (by omega)
    | succ n33 ih33 =>
      intro ls f_33 H locs v33_5 g33_u0_2 g33_u0_3 hm33 hl h t_33 o_33 iv33_5 ig33_u0_2 ig33_u0_3 k33_u0_2 k33_u0_3
      have L60 : ∀ (n60 : Nat) (ls : Array Slot) (f_60 : hM) (H : Heap) (locs : List Loc) (v60_6 : Int32) (v60_7 : Int32), 20 - v60_7.toInt < (n60 : Int) → lv_has ls 10 [(0, .ref u0), (1, .ref u1), (3, .int u3), (4, .int u4), (5, .int v33_5), (6, .int v60_6), (7, .int v60_7)] → hw D b0 s.heap f_60 H locs → TI G 9 τ f_60 → Fr [30, 32, 30002, 30003, 30004] τ f f_60 → iv v33_5 0 10 → iv v60_6 (-10) 10 → iv v60_7 (-10) 20 → atp f_60 u0 (fd 2 (.int g33_u0_2)) → atp f_60 u0 (fd 3 (.int g33_u0_3)) → g33_u0_2.toInt - 10 ≤ v60_7.toInt → W p l e rm_s_X9_lead s m args below meth c H locs 0 0 Q (F0 m 60 ls []) := by
        intro n60
        induction n60 with
        | zero => intro ls f_60 H locs v60_6 v60_7 hm60 hl h t_60 o_60 jv60_5 iv60_6 iv60_7 k60_u0_2 k60_u0_3 hv60_0; exact absurd hm60 (by omega)
        | succ n60 ih60 =>
          intro ls f_60 H locs v60_6 v60_7 hm60 hl h t_60 o_60 jv60_5 iv60_6 iv60_7 k60_u0_2 k60_u0_3 hv60_0
          have L81 : ∀ (n81 : Nat) (ls : Array Slot) (f_81 : hM) (H : Heap) (locs : List Loc) (v81_8 : Int32), 20 - v81_8.toInt < (n81 : Int) → lv_has ls 10 [(0, .ref u0), (1, .ref u1), (3, .int u3), (4, .int u4), (5, .int v33_5), (6, .int v60_6), (7, .int v60_7), (8, .int v81_8)] → hw D b0 s.heap f_81 H locs → TI G 9 τ f_81 → Fr [30, 32, 30002, 30003, 30004] τ f f_81 → iv v60_7 (-10) 19 → iv v81_8 (-10) 20 → atp f_81 u0 (fd 2 (.int g33_u0_2)) → atp f_81 u0 (fd 3 (.int g33_u0_3)) → g33_u0_3.toInt - 10 ≤ v81_8.toInt → v60_7.toInt ≤ g33_u0_2.toInt + 10 → W p l e rm_s_X9_lead s m args below meth c H locs 0 0 Q (F0 m 81 ls []) := by
            intro n81
            induction n81 with
            | zero => intro ls f_81 H locs v81_8 hm81 hl h t_81 o_81 jv81_7 iv81_8 k81_u0_2 k81_u0_3 hv81_0 hv81_1; exact absurd hm81 (by omega)
            | succ n81 ih81 =>
              intro ls f_81 H locs v81_8 hm81 hl h t_81 o_81 jv81_7 iv81_8 k81_u0_2 k81_u0_3 hv81_0 hv81_1
              refine lv_iload hx hb dX9_lead_81 (lv_at hl 7 rfl) ?_
              refine lv_aload_n hx hb dX9_lead_83 rfl (lv_at hl 0 rfl) ?_
              refine t_getfd C h t_81 hu0 (by decide) wf_30 (v := .int g33_u0_3) k81_u0_3 fl_X9_38 dX9_lead_84 ?_
              refine lv_iload hx hb dX9_lead_87 (lv_at hl 5 rfl) ?_
              refine i_add hx hb dX9_lead_89 ig33_u0_3 iv60_6 (lo := (-10)) (hi := 19) (by decide) (fun z1 ez1 mz1 iz1 => ?_)
              refine lv_icmp_gt (tgt := 156) hx hb dX9_lead_90 (by decide) (fun c2 => ?_) (fun c2 => ?_)
              · have c3 : z1.toInt < v81_8.toInt := Int32.lt_iff_toInt_lt.mp c2
                have i4 : iv v81_8 (-9) 20 := iv_Lr c3 iz1 iv81_8 (by decide)
                refine i_inc hx hb dX9_lead_156 hl (k := 6) rfl jv81_7 rfl (lo := (-9)) (hi := 20) (by decide) (by decide) (lv' := fun v => [(7, .int v), (0, .ref u0), (1, .ref u1), (3, .int u3), (4, .int u4), (5, .int v33_5), (6, .int v60_6), (8, .int v81_8)]) (fun _ => rfl) (fun z7 ls ez7 mz7 iz7 hl => ?_)
                refine lv_goto (tgt := 60) hx hb dX9_lead_159 (by decide) ?_
                exact ih60 ls f_81 H locs v60_6 z7 (show 20 - z7.toInt < _ by omega) (lv_cons hl 1 rfl (lv_cons hl 2 rfl (lv_cons hl 3 rfl (lv_cons hl 4 rfl (lv_cons hl 5 rfl (lv_cons hl 6 rfl (lv_cons hl 0 rfl (lv_nil hl)))))))) h t_81 o_81 jv60_5 iv60_6 (iv_w iz7 (by decide)) k81_u0_2 k81_u0_3 (show g33_u0_2.toInt - 10 ≤ z7.toInt by omega)
              · have c5 : v81_8.toInt ≤ z1.toInt := Int32.le_iff_toInt_le.mp (iv_nlt c2)
                have i6 : iv v81_8 (-10) 19 := iv_El c5 iv81_8 iz1 (by decide)
                refine lv_iload hx hb dX9_lead_93 (lv_at hl 6 rfl) ?_
                refine lv_iload_n hx hb dX9_lead_95 rfl (lv_at hl 2 rfl) ?_
                refine lv_icmp_ne (tgt := 110) hx hb dX9_lead_96 (by decide) (fun c8 => ?_) (fun c8 => ?_)
                · have c9 : v60_7.toInt ≠ u3.toInt := fun z_ => c8 (Int32.toInt_inj.mp z_)
                  refine lv_iconst (v := 0) hx hb dX9_lead_110 (by decide) ?_
                  refine lv_istore (lv' := [(9, .int 0), (0, .ref u0), (1, .ref u1), (3, .int u3), (4, .int u4), (5, .int v33_5), (6, .int v60_6), (7, .int v60_7), (8, .int v81_8)]) hx hb dX9_lead_111 hl (by decide) rfl (fun ls hl => ?_)
                  refine lv_aload_n hx hb dX9_lead_113 rfl (lv_at hl 1 rfl) ?_
                  refine t_getr (tq := 31) C h t_81 hu0 (by decide) wf_30 rfl fl_X9_13 dX9_lead_114 (fun q12 tq12 => ?_)
                  refine lv_iload hx hb dX9_lead_117 (lv_at hl 5 rfl) ?_
                  refine t_aaldA C h t_81 (g := 5) rfl tq12 (by decide) wf_31 (iv_in jv60_5 (by decide)) dX9_lead_119 (fun q13 tq13 => ?_)
                  refine lv_aload_n hx hb dX9_lead_120 rfl (lv_at hl 1 rfl) ?_
                  refine lv_iload hx hb dX9_lead_121 (lv_at hl 7 rfl) ?_
                  refine lv_iload hx hb dX9_lead_123 (lv_at hl 8 rfl) ?_
                  obtain ⟨_, r14⟩ := t_rec t_81 hu0 (by decide) wf_30
                  refine k_i (r_V C h hl (As := [.int v60_7, .int v81_8]) (rest := [.ref q13]) (s_X9_cell l D G b0 τ f_81 t_81 u0 hu0 v60_7 (iv_w jv81_7 (by decide)) v81_8 (iv_w i6 (by decide)) g33_u0_2 ig33_u0_2 k81_u0_2 g33_u0_3 ig33_u0_3 k81_u0_3) r14 (Cn := RX9) (T := TX9) (N := 4) rfl rfl mk_X9_cell w_870 w_872 w_23 w_873 ⟨Nat.le_of_ble_eq_true rfl, Nat.le_of_ble_eq_true rfl⟩ rfl (Nat.le_of_ble_eq_true rfl) ⟨Nat.le_of_ble_eq_true rfl, Nat.le_of_ble_eq_true rfl⟩ rfl dX9_lead_125) h (fun r15 f16 H locs p17 h => ?_)
                  obtain ⟨ir15, tf16, ogf16, x0r15⟩ := p17
                  have egf16 := Fr.nil2 ogf16
                  subst egf16
                  refine lv_iload hx hb dX9_lead_128 (lv_at hl 5 rfl) ?_
                  refine lv_if_ne (tgt := 138) hx hb dX9_lead_130 (by decide) (fun c18 => ?_) (fun c18 => ?_)
                  · have c19 : v33_5.toInt ≠ 0 := fun z_ => c18 (Int32.toInt_inj.mp z_)
                    have i20 : iv v33_5 1 10 := iv_Nl c19 jv60_5 (by decide)
                    refine lv_aload_n hx hb dX9_lead_138 rfl (lv_at hl 1 rfl) ?_
                    refine lv_aload_n hx hb dX9_lead_139 rfl (lv_at hl 2 rfl) ?_
                    refine lv_iload hx hb dX9_lead_140 (lv_at hl 5 rfl) ?_
                    refine lv_iload hx hb dX9_lead_142 (lv_at hl 7 rfl) ?_
                    refine lv_iload hx hb dX9_lead_144 (lv_at hl 8 rfl) ?_
                    obtain ⟨_, r23⟩ := t_rec t_81 hu0 (by decide) wf_30
                    refine k_i (r_V C h hl (As := [.ref u1, .int v33_5, .int v60_7, .int v81_8]) (rest := [.int r15, .ref q13]) (s_X9_waysOn l D G b0 τ f_81 t_81 u0 hu0 u1 hu1 v33_5 (iv_w i20 (by decide)) v60_7 (iv_w jv81_7 (by decide)) v81_8 (iv_w i6 (by decide))) r23 (Cn := RX9) (T := TX9) (N := 4) rfl rfl mk_X9_waysOn w_874 w_876 w_24 w_877 ⟨Nat.le_of_ble_eq_true rfl, Nat.le_of_ble_eq_true rfl⟩ rfl (Nat.le_of_ble_eq_true rfl) ⟨Nat.le_of_ble_eq_true rfl, Nat.le_of_ble_eq_true rfl⟩ rfl dX9_lead_146) h (fun r24 f25 H locs p26 h => ?_)
                    obtain ⟨ir24, tf25, ogf25⟩ := p26
                    have egf25 := Fr.nil2 ogf25
                    subst egf25
                    refine t_iast C h t_81 o_81 tq13 (by decide) (by decide) wf_32 fw_32 (ix_o (by omega)) ir24 dX9_lead_149 (fun f27 H locs h tf27 of27 hq => ?_)
                    have k28 := atp.tg k81_u0_2 hq hu0 (by decide)
                    have k29 := atp.tg k81_u0_3 hq hu0 (by decide)
                    refine i_inc hx hb dX9_lead_150 hl (k := 8) rfl i6 rfl (lo := (-9)) (hi := 20) (by decide) (by decide) (lv' := fun v => [(8, .int v), (9, .int 0), (0, .ref u0), (1, .ref u1), (3, .int u3), (4, .int u4), (5, .int v33_5), (6, .int v60_6), (7, .int v60_7)]) (fun _ => rfl) (fun z30 ls ez30 mz30 iz30 hl => ?_)
                    refine lv_goto (tgt := 81) hx hb dX9_lead_153 (by decide) ?_
                    exact ih81 ls f27 H locs z30 (show 20 - z30.toInt < _ by omega) (lv_cons hl 2 rfl (lv_cons hl 3 rfl (lv_cons hl 4 rfl (lv_cons hl 5 rfl (lv_cons hl 6 rfl (lv_cons hl 7 rfl (lv_cons hl 8 rfl (lv_cons hl 0 rfl (lv_nil hl))))))))) h tf27 of27 jv81_7 (iv_w iz30 (by decide)) k28 k29 (show g33_u0_3.toInt - 10 ≤ z30.toInt by omega) (show v60_7.toInt ≤ g33_u0_2.toInt + 10 by omega)
                  · have c21 : v33_5.toInt = 0 := congrArg Int32.toInt c18
                    have i22 : iv v33_5 0 0 := iv_Q c21 jv60_5 (iv_k (x := 0) (k := 0) rfl) (by decide)
                    refine lv_iload hx hb dX9_lead_133 (lv_at hl 0 rfl) ?_
                    refine lv_goto (tgt := 149) hx hb dX9_lead_135 (by decide) ?_
                    refine t_iast C h t_81 o_81 tq13 (by decide) (by decide) wf_32 fw_32 (ix_o (by omega)) ⟨by decide, by decide⟩ dX9_lead_149 (fun f31 H locs h tf31 of31 hq => ?_)
                    have k32 := atp.tg k81_u0_2 hq hu0 (by decide)
                    have k33 := atp.tg k81_u0_3 hq hu0 (by decide)
                    refine i_inc hx hb dX9_lead_150 hl (k := 8) rfl i6 rfl (lo := (-9)) (hi := 20) (by decide) (by decide) (lv' := fun v => [(8, .int v), (9, .int 0), (0, .ref u0), (1, .ref u1), (3, .int u3), (4, .int u4), (5, .int v33_5), (6, .int v60_6), (7, .int v60_7)]) (fun _ => rfl) (fun z34 ls ez34 mz34 iz34 hl => ?_)
                    refine lv_goto (tgt := 81) hx hb dX9_lead_153 (by decide) ?_
                    exact ih81 ls f31 H locs z34 (show 20 - z34.toInt < _ by omega) (lv_cons hl 2 rfl (lv_cons hl 3 rfl (lv_cons hl 4 rfl (lv_cons hl 5 rfl (lv_cons hl 6 rfl (lv_cons hl 7 rfl (lv_cons hl 8 rfl (lv_cons hl 0 rfl (lv_nil hl))))))))) h tf31 of31 jv81_7 (iv_w iz34 (by decide)) k32 k33 (show g33_u0_3.toInt - 10 ≤ z34.toInt by omega) (show v60_7.toInt ≤ g33_u0_2.toInt + 10 by omega)
                · have c10 : v60_7.toInt = u3.toInt := congrArg Int32.toInt c8
                  have i11 : iv u3 (-10) 19 := iv_Q c10.symm hu3 jv81_7 (by decide)
                  refine lv_iload hx hb dX9_lead_99 (lv_at hl 7 rfl) ?_
                  refine lv_iload hx hb dX9_lead_101 (lv_at hl 3 rfl) ?_
                  refine lv_icmp_ne (tgt := 110) hx hb dX9_lead_103 (by decide) (fun c35 => ?_) (fun c35 => ?_)
                  · have c36 : v81_8.toInt ≠ u4.toInt := fun z_ => c35 (Int32.toInt_inj.mp z_)
                    refine lv_iconst (v := 0) hx hb dX9_lead_110 (by decide) ?_
                    refine lv_istore (lv' := [(9, .int 0), (0, .ref u0), (1, .ref u1), (3, .int u3), (4, .int u4), (5, .int v33_5), (6, .int v60_6), (7, .int v60_7), (8, .int v81_8)]) hx hb dX9_lead_111 hl (by decide) rfl (fun ls hl => ?_)
                    refine lv_aload_n hx hb dX9_lead_113 rfl (lv_at hl 1 rfl) ?_
                    refine t_getr (tq := 31) C h t_81 hu0 (by decide) wf_30 rfl fl_X9_13 dX9_lead_114 (fun q39 tq39 => ?_)
                    refine lv_iload hx hb dX9_lead_117 (lv_at hl 5 rfl) ?_
                    refine t_aaldA C h t_81 (g := 5) rfl tq39 (by decide) wf_31 (iv_in jv60_5 (by decide)) dX9_lead_119 (fun q40 tq40 => ?_)
                    refine lv_aload_n hx hb dX9_lead_120 rfl (lv_at hl 1 rfl) ?_
                    refine lv_iload hx hb dX9_lead_121 (lv_at hl 7 rfl) ?_
                    refine lv_iload hx hb dX9_lead_123 (lv_at hl 8 rfl) ?_
                    obtain ⟨_, r41⟩ := t_rec t_81 hu0 (by decide) wf_30
                    refine k_i (r_V C h hl (As := [.int v60_7, .int v81_8]) (rest := [.ref q40]) (s_X9_cell l D G b0 τ f_81 t_81 u0 hu0 v60_7 (iv_w jv81_7 (by decide)) v81_8 (iv_w i6 (by decide)) g33_u0_2 ig33_u0_2 k81_u0_2 g33_u0_3 ig33_u0_3 k81_u0_3) r41 (Cn := RX9) (T := TX9) (N := 4) rfl rfl mk_X9_cell w_870 w_872 w_23 w_873 ⟨Nat.le_of_ble_eq_true rfl, Nat.le_of_ble_eq_true rfl⟩ rfl (Nat.le_of_ble_eq_true rfl) ⟨Nat.le_of_ble_eq_true rfl, Nat.le_of_ble_eq_true rfl⟩ rfl dX9_lead_125) h (fun r42 f43 H locs p44 h => ?_)
                    obtain ⟨ir42, tf43, ogf43, x0r42⟩ := p44
                    have egf43 := Fr.nil2 ogf43
                    subst egf43
                    refine lv_iload hx hb dX9_lead_128 (lv_at hl 5 rfl) ?_
                    refine lv_if_ne (tgt := 138) hx hb dX9_lead_130 (by decide) (fun c45 => ?_) (fun c45 => ?_)
                    · have c46 : v33_5.toInt ≠ 0 := fun z_ => c45 (Int32.toInt_inj.mp z_)
                      have i47 : iv v33_5 1 10 := iv_Nl c46 jv60_5 (by decide)
                      refine lv_aload_n hx hb dX9_lead_138 rfl (lv_at hl 1 rfl) ?_
                      refine lv_aload_n hx hb dX9_lead_139 rfl (lv_at hl 2 rfl) ?_
                      refine lv_iload hx hb dX9_lead_140 (lv_at hl 5 rfl) ?_
                      refine lv_iload hx hb dX9_lead_142 (lv_at hl 7 rfl) ?_
                      refine lv_iload hx hb dX9_lead_144 (lv_at hl 8 rfl) ?_
                      obtain ⟨_, r50⟩ := t_rec t_81 hu0 (by decide) wf_30
                      refine k_i (r_V C h hl (As := [.ref u1, .int v33_5, .int v60_7, .int v81_8]) (rest := [.int r42, .ref q40]) (s_X9_waysOn l D G b0 τ f_81 t_81 u0 hu0 u1 hu1 v33_5 (iv_w i47 (by decide)) v60_7 (iv_w jv81_7 (by decide)) v81_8 (iv_w i6 (by decide))) r50 (Cn := RX9) (T := TX9) (N := 4) rfl rfl mk_X9_waysOn w_874 w_876 w_24 w_877 ⟨Nat.le_of_ble_eq_true rfl, Nat.le_of_ble_eq_true rfl⟩ rfl (Nat.le_of_ble_eq_true rfl) ⟨Nat.le_of_ble_eq_true rfl, Nat.le_of_ble_eq_true rfl⟩ rfl dX9_lead_146) h (fun r51 f52 H locs p53 h => ?_)
                      obtain ⟨ir51, tf52, ogf52⟩ := p53
                      have egf52 := Fr.nil2 ogf52
                      subst egf52
                      refine t_iast C h t_81 o_81 tq40 (by decide) (by decide) wf_32 fw_32 (ix_o (by omega)) ir51 dX9_lead_149 (fun f54 H locs h tf54 of54 hq => ?_)
                      have k55 := atp.tg k81_u0_2 hq hu0 (by decide)
                      have k56 := atp.tg k81_u0_3 hq hu0 (by decide)
                      refine i_inc hx hb dX9_lead_150 hl (k := 8) rfl i6 rfl (lo := (-9)) (hi := 20) (by decide) (by decide) (lv' := fun v => [(8, .int v), (9, .int 0), (0, .ref u0), (1, .ref u1), (3, .int u3), (4, .int u4), (5, .int v33_5), (6, .int v60_6), (7, .int v60_7)]) (fun _ => rfl) (fun z57 ls ez57 mz57 iz57 hl => ?_)
                      refine lv_goto (tgt := 81) hx hb dX9_lead_153 (by decide) ?_
                      exact ih81 ls f54 H locs z57 (show 20 - z57.toInt < _ by omega) (lv_cons hl 2 rfl (lv_cons hl 3 rfl (lv_cons hl 4 rfl (lv_cons hl 5 rfl (lv_cons hl 6 rfl (lv_cons hl 7 rfl (lv_cons hl 8 rfl (lv_cons hl 0 rfl (lv_nil hl))))))))) h tf54 of54 jv81_7 (iv_w iz57 (by decide)) k55 k56 (show g33_u0_3.toInt - 10 ≤ z57.toInt by omega) (show v60_7.toInt ≤ g33_u0_2.toInt + 10 by omega)
                    · have c48 : v33_5.toInt = 0 := congrArg Int32.toInt c45
                      have i49 : iv v33_5 0 0 := iv_Q c48 jv60_5 (iv_k (x := 0) (k := 0) rfl) (by decide)
                      refine lv_iload hx hb dX9_lead_133 (lv_at hl 0 rfl) ?_
                      refine lv_goto (tgt := 149) hx hb dX9_lead_135 (by decide) ?_
                      refine t_iast C h t_81 o_81 tq40 (by decide) (by decide) wf_32 fw_32 (ix_o (by omega)) ⟨by decide, by decide⟩ dX9_lead_149 (fun f58 H locs h tf58 of58 hq => ?_)
                      have k59 := atp.tg k81_u0_2 hq hu0 (by decide)
                      have k60 := atp.tg k81_u0_3 hq hu0 (by decide)
                      refine i_inc hx hb dX9_lead_150 hl (k := 8) rfl i6 rfl (lo := (-9)) (hi := 20) (by decide) (by decide) (lv' := fun v => [(8, .int v), (9, .int 0), (0, .ref u0), (1, .ref u1), (3, .int u3), (4, .int u4), (5, .int v33_5), (6, .int v60_6), (7, .int v60_7)]) (fun _ => rfl) (fun z61 ls ez61 mz61 iz61 hl => ?_)
                      refine lv_goto (tgt := 81) hx hb dX9_lead_153 (by decide) ?_
                      exact ih81 ls f58 H locs z61 (show 20 - z61.toInt < _ by omega) (lv_cons hl 2 rfl (lv_cons hl 3 rfl (lv_cons hl 4 rfl (lv_cons hl 5 rfl (lv_cons hl 6 rfl (lv_cons hl 7 rfl (lv_cons hl 8 rfl (lv_cons hl 0 rfl (lv_nil hl))))))))) h tf58 of58 jv81_7 (iv_w iz61 (by decide)) k59 k60 (show g33_u0_3.toInt - 10 ≤ z61.toInt by omega) (show v60_7.toInt ≤ g33_u0_2.toInt + 10 by omega)
                  · have c37 : v81_8.toInt = u4.toInt := congrArg Int32.toInt c35
                    have i38 : iv u4 (-10) 19 := iv_Q c37.symm hu4 i6 (by decide)
                    refine lv_iconst (v := 1) hx hb dX9_lead_106 (by decide) ?_
                    refine lv_goto (tgt := 111) hx hb dX9_lead_107 (by decide) ?_
                    refine lv_istore (lv' := [(9, .int 1), (0, .ref u0), (1, .ref u1), (3, .int u3), (4, .int u4), (5, .int v33_5), (6, .int v60_6), (7, .int v60_7), (8, .int v81_8)]) hx hb dX9_lead_111 hl (by decide) rfl (fun ls hl => ?_)
                    refine lv_aload_n hx hb dX9_lead_113 rfl (lv_at hl 1 rfl) ?_
                    refine t_getr (tq := 31) C h t_81 hu0 (by decide) wf_30 rfl fl_X9_13 dX9_lead_114 (fun q62 tq62 => ?_)
                    refine lv_iload hx hb dX9_lead_117 (lv_at hl 5 rfl) ?_
                    refine t_aaldA C h t_81 (g := 5) rfl tq62 (by decide) wf_31 (iv_in jv60_5 (by decide)) dX9_lead_119 (fun q63 tq63 => ?_)
                    refine lv_aload_n hx hb dX9_lead_120 rfl (lv_at hl 1 rfl) ?_
                    refine lv_iload hx hb dX9_lead_121 (lv_at hl 7 rfl) ?_
                    refine lv_iload hx hb dX9_lead_123 (lv_at hl 8 rfl) ?_
                    obtain ⟨_, r64⟩ := t_rec t_81 hu0 (by decide) wf_30
                    refine k_i (r_V C h hl (As := [.int v60_7, .int v81_8]) (rest := [.ref q63]) (s_X9_cell l D G b0 τ f_81 t_81 u0 hu0 v60_7 (iv_w jv81_7 (by decide)) v81_8 (iv_w i6 (by decide)) g33_u0_2 ig33_u0_2 k81_u0_2 g33_u0_3 ig33_u0_3 k81_u0_3) r64 (Cn := RX9) (T := TX9) (N := 4) rfl rfl mk_X9_cell w_870 w_872 w_23 w_873 ⟨Nat.le_of_ble_eq_true rfl, Nat.le_of_ble_eq_true rfl⟩ rfl (Nat.le_of_ble_eq_true rfl) ⟨Nat.le_of_ble_eq_true rfl, Nat.le_of_ble_eq_true rfl⟩ rfl dX9_lead_125) h (fun r65 f66 H locs p67 h => ?_)
                    obtain ⟨ir65, tf66, ogf66, x0r65⟩ := p67
                    have egf66 := Fr.nil2 ogf66
                    subst egf66
                    refine lv_iload hx hb dX9_lead_128 (lv_at hl 5 rfl) ?_
                    refine lv_if_ne (tgt := 138) hx hb dX9_lead_130 (by decide) (fun c68 => ?_) (fun c68 => ?_)
                    · have c69 : v33_5.toInt ≠ 0 := fun z_ => c68 (Int32.toInt_inj.mp z_)
                      have i70 : iv v33_5 1 10 := iv_Nl c69 jv60_5 (by decide)
                      refine lv_aload_n hx hb dX9_lead_138 rfl (lv_at hl 1 rfl) ?_
                      refine lv_aload_n hx hb dX9_lead_139 rfl (lv_at hl 2 rfl) ?_
                      refine lv_iload hx hb dX9_lead_140 (lv_at hl 5 rfl) ?_
                      refine lv_iload hx hb dX9_lead_142 (lv_at hl 7 rfl) ?_
                      refine lv_iload hx hb dX9_lead_144 (lv_at hl 8 rfl) ?_
                      obtain ⟨_, r73⟩ := t_rec t_81 hu0 (by decide) wf_30
                      refine k_i (r_V C h hl (As := [.ref u1, .int v33_5, .int v60_7, .int v81_8]) (rest := [.int r65, .ref q63]) (s_X9_waysOn l D G b0 τ f_81 t_81 u0 hu0 u1 hu1 v33_5 (iv_w i70 (by decide)) v60_7 (iv_w jv81_7 (by decide)) v81_8 (iv_w i6 (by decide))) r73 (Cn := RX9) (T := TX9) (N := 4) rfl rfl mk_X9_waysOn w_874 w_876 w_24 w_877 ⟨Nat.le_of_ble_eq_true rfl, Nat.le_of_ble_eq_true rfl⟩ rfl (Nat.le_of_ble_eq_true rfl) ⟨Nat.le_of_ble_eq_true rfl, Nat.le_of_ble_eq_true rfl⟩ rfl dX9_lead_146) h (fun r74 f75 H locs p76 h => ?_)
                      obtain ⟨ir74, tf75, ogf75⟩ := p76
                      have egf75 := Fr.nil2 ogf75
                      subst egf75
                      refine t_iast C h t_81 o_81 tq63 (by decide) (by decide) wf_32 fw_32 (ix_o (by omega)) ir74 dX9_lead_149 (fun f77 H locs h tf77 of77 hq => ?_)
                      have k78 := atp.tg k81_u0_2 hq hu0 (by decide)
                      have k79 := atp.tg k81_u0_3 hq hu0 (by decide)
                      refine i_inc hx hb dX9_lead_150 hl (k := 8) rfl i6 rfl (lo := (-9)) (hi := 20) (by decide) (by decide) (lv' := fun v => [(8, .int v), (9, .int 1), (0, .ref u0), (1, .ref u1), (3, .int u3), (4, .int u4), (5, .int v33_5), (6, .int v60_6), (7, .int v60_7)]) (fun _ => rfl) (fun z80 ls ez80 mz80 iz80 hl => ?_)
                      refine lv_goto (tgt := 81) hx hb dX9_lead_153 (by decide) ?_
                      exact ih81 ls f77 H locs z80 (show 20 - z80.toInt < _ by omega) (lv_cons hl 2 rfl (lv_cons hl 3 rfl (lv_cons hl 4 rfl (lv_cons hl 5 rfl (lv_cons hl 6 rfl (lv_cons hl 7 rfl (lv_cons hl 8 rfl (lv_cons hl 0 rfl (lv_nil hl))))))))) h tf77 of77 jv81_7 (iv_w iz80 (by decide)) k78 k79 (show g33_u0_3.toInt - 10 ≤ z80.toInt by omega) (show v60_7.toInt ≤ g33_u0_2.toInt + 10 by omega)
                    · have c71 : v33_5.toInt = 0 := congrArg Int32.toInt c68
                      have i72 : iv v33_5 0 0 := iv_Q c71 jv60_5 (iv_k (x := 0) (k := 0) rfl) (by decide)
                      refine lv_iload hx hb dX9_lead_133 (lv_at hl 0 rfl) ?_
                      refine lv_goto (tgt := 149) hx hb dX9_lead_135 (by decide) ?_
                      refine t_iast C h t_81 o_81 tq63 (by decide) (by decide) wf_32 fw_32 (ix_o (by omega)) ⟨by decide, by decide⟩ dX9_lead_149 (fun f81 H locs h tf81 of81 hq => ?_)
                      have k82 := atp.tg k81_u0_2 hq hu0 (by decide)
                      have k83 := atp.tg k81_u0_3 hq hu0 (by decide)
                      refine i_inc hx hb dX9_lead_150 hl (k := 8) rfl i6 rfl (lo := (-9)) (hi := 20) (by decide) (by decide) (lv' := fun v => [(8, .int v), (9, .int 1), (0, .ref u0), (1, .ref u1), (3, .int u3), (4, .int u4), (5, .int v33_5), (6, .int v60_6), (7, .int v60_7)]) (fun _ => rfl) (fun z84 ls ez84 mz84 iz84 hl => ?_)
                      refine lv_goto (tgt := 81) hx hb dX9_lead_153 (by decide) ?_
                      exact ih81 ls f81 H locs z84 (show 20 - z84.toInt < _ by omega) (lv_cons hl 2 rfl (lv_cons hl 3 rfl (lv_cons hl 4 rfl (lv_cons hl 5 rfl (lv_cons hl 6 rfl (lv_cons hl 7 rfl (lv_cons hl 8 rfl (lv_cons hl 0 rfl (lv_nil hl))))))))) h tf81 of81 jv81_7 (iv_w iz84 (by decide)) k82 k83 (show g33_u0_3.toInt - 10 ≤ z84.toInt by omega) (show v60_7.toInt ≤ g33_u0_2.toInt + 10 by omega)
          refine lv_iload hx hb dX9_lead_60 (lv_at hl 6 rfl) ?_
          refine lv_aload_n hx hb dX9_lead_62 rfl (lv_at hl 0 rfl) ?_
          refine t_getfd C h t_60 hu0 (by decide) wf_30 (v := .int g33_u0_2) k60_u0_2 fl_X9_34 dX9_lead_63 ?_
          refine lv_iload hx hb dX9_lead_66 (lv_at hl 5 rfl) ?_
          refine i_add hx hb dX9_lead_68 ig33_u0_2 iv60_6 (lo := (-10)) (hi := 19) (by decide) (fun z85 ez85 mz85 iz85 => ?_)
          refine lv_icmp_gt (tgt := 162) hx hb dX9_lead_69 (by decide) (fun c86 => ?_) (fun c86 => ?_)
          · have c87 : z85.toInt < v60_7.toInt := Int32.lt_iff_toInt_lt.mp c86
            have i88 : iv v60_7 (-9) 20 := iv_Lr c87 iz85 iv60_7 (by decide)
            refine i_inc hx hb dX9_lead_162 hl (k := 4) rfl jv60_5 rfl (lo := 1) (hi := 11) (by decide) (by decide) (lv' := fun v => [(5, .int v), (0, .ref u0), (1, .ref u1), (3, .int u3), (4, .int u4), (6, .int v60_6), (7, .int v60_7)]) (fun _ => rfl) (fun z91 ls ez91 mz91 iz91 hl => ?_)
            refine lv_goto (tgt := 33) hx hb dX9_lead_165 (by decide) ?_
            exact ih33 ls f_60 H locs z91 g33_u0_2 g33_u0_3 (show 11 - z91.toInt < _ by omega) (lv_cons hl 1 rfl (lv_cons hl 2 rfl (lv_cons hl 3 rfl (lv_cons hl 4 rfl (lv_cons hl 0 rfl (lv_nil hl)))))) h t_60 o_60 (iv_w iz91 (by decide)) ig33_u0_2 ig33_u0_3 k60_u0_2 k60_u0_3
          · have c89 : v60_7.toInt ≤ z85.toInt := Int32.le_iff_toInt_le.mp (iv_nlt c86)
            have i90 : iv v60_7 (-10) 19 := iv_El c89 iv60_7 iz85 (by decide)
            refine lv_aload_n hx hb dX9_lead_72 rfl (lv_at hl 0 rfl) ?_
            refine t_getfd C h t_60 hu0 (by decide) wf_30 (v := .int g33_u0_3) k60_u0_3 fl_X9_38 dX9_lead_73 ?_
            refine lv_iload hx hb dX9_lead_76 (lv_at hl 5 rfl) ?_
            refine i_sub hx hb dX9_lead_78 ig33_u0_3 iv60_6 (lo := (-10)) (hi := 19) (by decide) (fun z92 ez92 mz92 iz92 => ?_)
            refine lv_istore (lv' := [(8, .int z92), (0, .ref u0), (1, .ref u1), (3, .int u3), (4, .int u4), (5, .int v33_5), (6, .int v60_6), (7, .int v60_7)]) hx hb dX9_lead_79 hl (by decide) rfl (fun ls hl => ?_)
            exact L81 31 ls f_60 H locs z92 (show 20 - z92.toInt < _ by omega) (lv_cons hl 1 rfl (lv_cons hl 2 rfl (lv_cons hl 3 rfl (lv_cons hl 4 rfl (lv_cons hl 5 rfl (lv_cons hl 6 rfl (lv_cons hl 7 rfl (lv_cons hl 0 rfl (lv_nil hl))))))))) h t_60 o_60 i90 (iv_w iz92 (by decide)) k60_u0_2 k60_u0_3 (show g33_u0_3.toInt - 10 ≤ z92.toInt by omega) (show v60_7.toInt ≤ g33_u0_2.toInt + 10 by omega)
      refine lv_iload hx hb dX9_lead_33 (lv_at hl 4 rfl) ?_
      refine lv_aload_n hx hb dX9_lead_35 rfl (lv_at hl 0 rfl) ?_
      refine t_geti C h t_33 hu0 (by decide) wf_30 rfl fl_X9_25 dX9_lead_36 (fun z93 iz93 => ?_)
      refine lv_icmp_gt (tgt := 168) hx hb dX9_lead_39 (by decide) (fun c94 => ?_) (fun c94 => ?_)
      · have c95 : z93.toInt < v33_5.toInt := Int32.lt_iff_toInt_lt.mp c94
        have i96 : iv v33_5 1 11 := iv_Lr c95 iz93 iv33_5 (by decide)
        refine lv_aload_n hx hb dX9_lead_168 rfl (lv_at hl 0 rfl) ?_
        refine lv_aload_n hx hb dX9_lead_169 rfl (lv_at hl 0 rfl) ?_
        refine t_geti C h t_33 hu0 (by decide) wf_30 rfl fl_X9_25 dX9_lead_170 (fun z99 iz99 => ?_)
        refine lv_aload_n hx hb dX9_lead_173 rfl (lv_at hl 0 rfl) ?_
        refine t_getfd C h t_33 hu0 (by decide) wf_30 (v := .int g33_u0_2) k33_u0_2 fl_X9_34 dX9_lead_174 ?_
        refine lv_aload_n hx hb dX9_lead_177 rfl (lv_at hl 0 rfl) ?_
        refine t_getfd C h t_33 hu0 (by decide) wf_30 (v := .int g33_u0_3) k33_u0_3 fl_X9_38 dX9_lead_178 ?_
        obtain ⟨_, r100⟩ := t_rec t_33 hu0 (by decide) wf_30
        refine k_i (r_V C h hl (As := [.int z99, .int g33_u0_2, .int g33_u0_3]) (rest := []) (s_X9_ways l D G b0 τ f_33 t_33 u0 hu0 z99 (iv_w iz99 (by decide)) g33_u0_2 (iv_w ig33_u0_2 (by decide)) g33_u0_3 (iv_w ig33_u0_3 (by decide))) r100 (Cn := RX9) (T := TX9) (N := 4) rfl rfl mk_X9_ways w_880 w_882 w_25 w_883 ⟨Nat.le_of_ble_eq_true rfl, Nat.le_of_ble_eq_true rfl⟩ rfl (Nat.le_of_ble_eq_true rfl) ⟨Nat.le_of_ble_eq_true rfl, Nat.le_of_ble_eq_true rfl⟩ rfl dX9_lead_181) h (fun r101 f102 H locs p103 h => ?_)
        obtain ⟨ir101, tf102, ogf102⟩ := p103
        have egf102 := Fr.nil2 ogf102
        subst egf102
        exact u_iret C h hr hQ (⟨ir101, t_33, o_33⟩) (Nat.le_of_ble_eq_true rfl) (Nat.le_of_ble_eq_true rfl) dX9_lead_184
      · have c97 : v33_5.toInt ≤ z93.toInt := Int32.le_iff_toInt_le.mp (iv_nlt c94)
        have i98 : iv v33_5 0 10 := iv_El c97 iv33_5 iz93 (by decide)
        refine lv_aload_n hx hb dX9_lead_42 rfl (lv_at hl 0 rfl) ?_
        refine t_geti C h t_33 hu0 (by decide) wf_30 rfl fl_X9_25 dX9_lead_43 (fun z104 iz104 => ?_)
        refine lv_iload hx hb dX9_lead_46 (lv_at hl 4 rfl) ?_
        refine i_sub hx hb dX9_lead_48 iz104 i98 (lo := (-10)) (hi := 10) (by decide) (fun z105 ez105 mz105 iz105 => ?_)
        refine lv_istore (lv' := [(6, .int z105), (0, .ref u0), (1, .ref u1), (3, .int u3), (4, .int u4), (5, .int v33_5)]) hx hb dX9_lead_49 hl (by decide) rfl (fun ls hl => ?_)
        refine lv_aload_n hx hb dX9_lead_51 rfl (lv_at hl 1 rfl) ?_
        refine t_getfd C h t_33 hu0 (by decide) wf_30 (v := .int g33_u0_2) k33_u0_2 fl_X9_34 dX9_lead_52 ?_
        refine lv_iload hx hb dX9_lead_55 (lv_at hl 0 rfl) ?_
        refine i_sub hx hb dX9_lead_57 ig33_u0_2 iz105 (lo := (-10)) (hi := 19) (by decide) (fun z106 ez106 mz106 iz106 => ?_)
        refine lv_istore (lv' := [(7, .int z106), (6, .int z105), (0, .ref u0), (1, .ref u1), (3, .int u3), (4, .int u4), (5, .int v33_5)]) hx hb dX9_lead_58 hl (by decide) rfl (fun ls hl => ?_)
        exact L60 31 ls f_33 H locs z105 z106 (show 20 - z106.toInt < _ by omega) (lv_cons hl 2 rfl (lv_cons hl 3 rfl (lv_cons hl 4 rfl (lv_cons hl 5 rfl (lv_cons hl 6 rfl (lv_cons hl 1 rfl (lv_cons hl 0 rfl (lv_nil hl)))))))) h t_33 o_33 i98 iz105 (iv_w iz106 (by decide)) k33_u0_2 k33_u0_3 (show g33_u0_2.toInt - 10 ≤ z106.toInt by omega)
  refine lv_aload_n hx hb dX9_lead_0 rfl (lv_at hl 0 rfl) ?_
  refine lv_iconst (v := 0) hx hb dX9_lead_1 (by decide) ?_
  refine lv_iload_n hx hb dX9_lead_2 rfl (lv_at hl 2 rfl) ?_
  refine lv_bipush (v := 10) hx hb dX9_lead_3 (by decide) ?_
  refine va_mmin hx hb (hml.trans hl.1.symm) hown (hts _ w_868) (hts _ w_548) (hts _ w_112) (hts _ w_549) (Nat.le_of_ble_eq_true rfl) (Nat.le_of_ble_eq_true rfl) (Nat.le_of_ble_eq_true rfl) (Nat.le_of_ble_eq_true rfl) dX9_lead_5 (i_min hu2 (iv_k (x := 10) (k := 10) rfl) (lo := (-2147483648)) (hi := 10) (by decide) (fun z107 mz107 iz107 => ?_))
  have n108 : (10 : Int32).toInt = 10 := rfl
  refine va_mmax hx hb (hml.trans hl.1.symm) hown (hts _ w_869) (hts _ w_453) (hts _ w_112) (hts _ w_454) (Nat.le_of_ble_eq_true rfl) (Nat.le_of_ble_eq_true rfl) (Nat.le_of_ble_eq_true rfl) (Nat.le_of_ble_eq_true rfl) dX9_lead_8 (i_max (iv_k (x := 0) (k := 0) rfl) iz107 (lo := 0) (hi := 10) (by decide) (fun z109 mz109 iz109 => ?_))
  have n110 : (0 : Int32).toInt = 0 := rfl
  refine t_put C h t o hu0 (by decide) (by decide) (by decide) wf_30 fw_30 (k := 1) rfl flw_X9_25 (Or.inr ⟨_, _, _, rfl, rfl⟩) (v := .int z109) rfl rfl ⟨_, rfl, iz109⟩ dX9_lead_11 (fun f111 H locs h tf111 of111 hq ha_ hn_ hk_ => ?_)
  have k112 := ha_
  refine lv_aload_n hx hb dX9_lead_14 rfl (lv_at hl 0 rfl) ?_
  refine lv_aload_n hx hb dX9_lead_15 rfl (lv_at hl 1 rfl) ?_
  refine t_geti C h tf111 hu1 (by decide) wf_1 rfl fl_X9_29 dX9_lead_16 (fun z113 iz113 => ?_)
  refine t_put C h tf111 of111 hu0 (by decide) (by decide) (by decide) wf_30 fw_30 (k := 2) rfl flw_X9_34 (Or.inr ⟨_, _, _, rfl, rfl⟩) (v := .int z113) rfl rfl ⟨_, rfl, iz113⟩ dX9_lead_19 (fun f114 H locs h tf114 of114 hq ha_ hn_ hk_ => ?_)
  have k115 := ha_
  refine lv_aload_n hx hb dX9_lead_22 rfl (lv_at hl 0 rfl) ?_
  refine lv_aload_n hx hb dX9_lead_23 rfl (lv_at hl 1 rfl) ?_
  refine t_geti C h tf114 hu1 (by decide) wf_1 rfl fl_X9_35 dX9_lead_24 (fun z116 iz116 => ?_)
  refine t_put C h tf114 of114 hu0 (by decide) (by decide) (by decide) wf_30 fw_30 (k := 3) rfl flw_X9_38 (Or.inr ⟨_, _, _, rfl, rfl⟩) (v := .int z116) rfl rfl ⟨_, rfl, iz116⟩ dX9_lead_27 (fun f117 H locs h tf117 of117 hq ha_ hn_ hk_ => ?_)
  have k118 := hk_ 2 _ (by decide) k115
  have k119 := ha_
  refine lv_iconst (v := 0) hx hb dX9_lead_30 (by decide) ?_
  refine lv_istore (lv' := [(5, .int 0), (0, .ref u0), (1, .ref u1), (2, .int u2), (3, .int u3), (4, .int u4)]) hx hb dX9_lead_31 hl (by decide) rfl (fun ls hl => ?_)
  exact L33 12 ls f117 H locs 0 z113 z116 (by decide) (lv_cons hl 1 rfl (lv_cons hl 2 rfl (lv_cons hl 4 rfl (lv_cons hl 5 rfl (lv_cons hl 0 rfl (lv_nil hl)))))) h tf117 of117 ⟨by decide, by decide⟩ iz113 iz116 k118 k119
abbrev rm_s_X9_follow : Room := { frames := 2, cells := 0, slots := 0, locals := 46 }
set_option maxRecDepth 100000 in
set_option maxHeartbeats 4000000 in
theorem s_X9_follow (l : Launch) (D : va_G) (G : Nat → Nat) (b0 : Nat) (τ : Nat → Nat) (f : hM) (t : TI G 9 τ f) (u0 : Nat) (hu0 : τ u0 = 30) (u1 : Nat) (hu1 : τ u1 = 1) (u2 : Int32) (hu2 : iv u2 (-2147483648) 2147483647) (u3 : Int32) (hu3 : iv u3 (-2147483648) 2147483647) : mI l yX9_follow cX9_follow 11 (.int) rm_s_X9_follow D G b0 f [.ref u0, .ref u1, .int u2, .int u3] (fun r f1 => iv r (-1000000) 7 ∧ TI G 9 τ f1 ∧ Fr [] τ f f1) := by
  refine met2 (own := RX9) (by decide) rfl (Nat.le_of_ble_eq_true rfl) ?_
  intro p e s m args below meth c ls Q hQ C hr hini hl h
  have hl : lv_has ls 11 [(0, .ref u0), (1, .ref u1), (2, .int u2), (3, .int u3)] := hl
  obtain ⟨hx, hb, hml, hown, hts, hE0, hlk⟩ := id C
  have o := Fr.rf [] τ f
  have L22 : ∀ (n22 : Nat) (ls : Array Slot) (f_22 : hM) (H : Heap) (locs : List Loc) (v22_4 : Int32) (v22_5 : Int32) (v22_6 : Int32) (v22_7 : Int32) (v22_8 : Int32), 10 - v22_8.toInt < (n22 : Int) → lv_has ls 11 [(0, .ref u0), (1, .ref u1), (3, .int u3), (4, .int v22_4), (5, .int v22_5), (6, .int v22_6), (7, .int v22_7), (8, .int v22_8)] → hw D b0 s.heap f_22 H locs → TI G 9 τ f_22 → Fr [] τ f f_22 → iv v22_4 (-10) 19 → iv v22_5 (-10) 19 → iv v22_6 (-2147483648) 2147483647 → iv v22_7 (-1000000) 7 → iv v22_8 0 10 → -v22_8.toInt ≤ v22_4.toInt → v22_4.toInt ≤ 9 + v22_8.toInt → -v22_8.toInt ≤ v22_5.toInt → v22_5.toInt ≤ 9 + v22_8.toInt → W p l e rm_s_X9_follow s m args below meth c H locs 0 0 Q (F0 m 22 ls []) := by
    intro n22
    induction n22 with
    | zero => intro ls f_22 H locs v22_4 v22_5 v22_6 v22_7 v22_8 hm22 hl h t_22 o_22 iv22_4 iv22_5 iv22_6 iv22_7 iv22_8 hv22_0 hv22_1 hv22_2 hv22_3; exact absurd hm22 (by omega)
    | succ n22 ih22 =>
      intro ls f_22 H locs v22_4 v22_5 v22_6 v22_7 v22_8 hm22 hl h t_22 o_22 iv22_4 iv22_5 iv22_6 iv22_7 iv22_8 hv22_0 hv22_1 hv22_2 hv22_3
      have L44 : ∀ (n44 : Nat) (ls : Array Slot) (f_44 : hM) (H : Heap) (locs : List Loc) (v44_6 : Int32) (v44_7 : Int32) (v44_9 : Int32), 8 - v44_9.toInt < (n44 : Int) → lv_has ls 11 [(0, .ref u0), (1, .ref u1), (3, .int u3), (4, .int v22_4), (5, .int v22_5), (6, .int v44_6), (7, .int v44_7), (8, .int v22_8), (9, .int v44_9)] → hw D b0 s.heap f_44 H locs → TI G 9 τ f_44 → Fr [] τ f f_44 → iv u3 0 2147483647 → iv v44_6 (-2147483648) 2147483647 → iv v44_7 (-1000000) 7 → iv v22_8 0 9 → iv v44_9 0 8 → v44_7.toInt = -1000000 ∨ 0 ≤ v44_7.toInt → W p l e rm_s_X9_follow s m args below meth c H locs 0 0 Q (F0 m 44 ls []) := by
        intro n44
        induction n44 with
        | zero => intro ls f_44 H locs v44_6 v44_7 v44_9 hm44 hl h t_44 o_44 jv44_3 iv44_6 iv44_7 jv44_8 iv44_9 hv44_0; exact absurd hm44 (by omega)
        | succ n44 ih44 =>
          intro ls f_44 H locs v44_6 v44_7 v44_9 hm44 hl h t_44 o_44 jv44_3 iv44_6 iv44_7 jv44_8 iv44_9 hv44_0
          refine lv_iload hx hb dX9_follow_44 (lv_at hl 8 rfl) ?_
          refine lv_bipush (v := 8) hx hb dX9_follow_46 (by decide) ?_
          refine lv_icmp_ge (tgt := 132) hx hb dX9_follow_48 (by decide) (fun c1 => ?_) (fun c1 => ?_)
          · have c2 : 8 ≤ v44_9.toInt := Int32.le_iff_toInt_le.mp c1
            have i3 : iv v44_9 8 8 := iv_Er c2 (iv_k (x := 8) (k := 8) rfl) iv44_9 (by decide)
            refine lv_iload hx hb dX9_follow_132 (lv_at hl 6 rfl) ?_
            refine lv_ldc (v := -1000000) hx hb hown (hts _ w_889) dX9_follow_134 ?_
            refine lv_icmp_ne (tgt := 142) hx hb dX9_follow_136 (by decide) (fun c6 => ?_) (fun c6 => ?_)
            · have c7 : v44_7.toInt ≠ (-1000000) := fun z_ => c6 (Int32.toInt_inj.mp z_)
              have i8 : iv v44_7 (-999999) 7 := iv_Nl c7 iv44_7 (by decide)
              refine lv_iload hx hb dX9_follow_142 (lv_at hl 3 rfl) ?_
              refine st_getN C h (i := 0) (by decide) (by decide) dX9_follow_144 ?_
              refine lv_iload hx hb dX9_follow_147 (lv_at hl 6 rfl) ?_
              refine st_ald C h (k := 0) (by decide) st_b0 (ix_o (by omega)) dX9_follow_149 (fun z11 ez11 iz11 => ?_)
              refine i_add hx hb dX9_follow_150 iv22_4 iz11 (lo := (-11)) (hi := 20) (by decide) (fun z12 ez12 mz12 iz12 => ?_)
              refine lv_istore (lv' := [(4, .int z12), (0, .ref u0), (1, .ref u1), (3, .int u3), (5, .int v22_5), (6, .int v44_6), (7, .int v44_7), (8, .int v22_8), (9, .int v44_9)]) hx hb dX9_follow_151 hl (by decide) rfl (fun ls hl => ?_)
              refine lv_iload hx hb dX9_follow_153 (lv_at hl 4 rfl) ?_
              refine st_getN C h (i := 1) (by decide) (by decide) dX9_follow_155 ?_
              refine lv_iload hx hb dX9_follow_158 (lv_at hl 6 rfl) ?_
              refine st_ald C h (k := 1) (by decide) st_b1 (ix_o (by omega)) dX9_follow_160 (fun z13 ez13 iz13 => ?_)
              refine i_add hx hb dX9_follow_161 iv22_5 iz13 (lo := (-11)) (hi := 20) (by decide) (fun z14 ez14 mz14 iz14 => ?_)
              refine lv_istore (lv' := [(5, .int z14), (4, .int z12), (0, .ref u0), (1, .ref u1), (3, .int u3), (6, .int v44_6), (7, .int v44_7), (8, .int v22_8), (9, .int v44_9)]) hx hb dX9_follow_162 hl (by decide) rfl (fun ls hl => ?_)
              refine i_inc hx hb dX9_follow_164 hl (k := 7) rfl jv44_8 rfl (lo := 1) (hi := 10) (by decide) (by decide) (lv' := fun v => [(8, .int v), (5, .int z14), (4, .int z12), (0, .ref u0), (1, .ref u1), (3, .int u3), (6, .int v44_6), (7, .int v44_7), (9, .int v44_9)]) (fun _ => rfl) (fun z15 ls ez15 mz15 iz15 hl => ?_)
              refine lv_goto (tgt := 22) hx hb dX9_follow_167 (by decide) ?_
              exact ih22 ls f_44 H locs z12 z14 v44_6 v44_7 z15 (show 10 - z15.toInt < _ by omega) (lv_cons hl 3 rfl (lv_cons hl 4 rfl (lv_cons hl 5 rfl (lv_cons hl 2 rfl (lv_cons hl 1 rfl (lv_cons hl 6 rfl (lv_cons hl 7 rfl (lv_cons hl 0 rfl (lv_nil hl))))))))) h t_44 o_44 (show iv z12 (-10) 19 from by omega) (show iv z14 (-10) 19 from by omega) iv44_6 (iv_w i8 (by decide)) (iv_w iz15 (by decide)) (show -z15.toInt ≤ z12.toInt by omega) (show z12.toInt ≤ 9 + z15.toInt by omega) (show -z15.toInt ≤ z14.toInt by omega) (show z14.toInt ≤ 9 + z15.toInt by omega)
            · have c9 : v44_7.toInt = (-1000000) := congrArg Int32.toInt c6
              have i10 : iv v44_7 (-1000000) (-1000000) := iv_Q c9 iv44_7 (iv_k (x := (-1000000)) (k := (-1000000)) rfl) (by decide)
              refine lv_ldc (v := -1000000) hx hb hown (hts _ w_889) dX9_follow_139 ?_
              exact u_iret C h hr hQ (⟨⟨by decide, by decide⟩, t_44, o_44⟩) (Nat.le_of_ble_eq_true rfl) (Nat.le_of_ble_eq_true rfl) dX9_follow_141
          · have c4 : v44_9.toInt < 8 := Int32.lt_iff_toInt_lt.mp (iv_nle c1)
            have i5 : iv v44_9 0 7 := iv_Ll c4 iv44_9 (iv_k (x := 8) (k := 8) rfl) (by decide)
            refine lv_iload hx hb dX9_follow_51 (lv_at hl 6 rfl) ?_
            refine lv_ldc (v := -1000000) hx hb hown (hts _ w_889) dX9_follow_53 ?_
            refine lv_icmp_ne (tgt := 132) hx hb dX9_follow_55 (by decide) (fun c16 => ?_) (fun c16 => ?_)
            · have c17 : v44_7.toInt ≠ (-1000000) := fun z_ => c16 (Int32.toInt_inj.mp z_)
              have i18 : iv v44_7 (-999999) 7 := iv_Nl c17 iv44_7 (by decide)
              refine lv_iload hx hb dX9_follow_132 (lv_at hl 6 rfl) ?_
              refine lv_ldc (v := -1000000) hx hb hown (hts _ w_889) dX9_follow_134 ?_
              refine lv_icmp_ne (tgt := 142) hx hb dX9_follow_136 (by decide) (fun c21 => ?_) (fun c21 => ?_)
              · have c22 : v44_7.toInt ≠ (-1000000) := fun z_ => c21 (Int32.toInt_inj.mp z_)
                refine lv_iload hx hb dX9_follow_142 (lv_at hl 3 rfl) ?_
                refine st_getN C h (i := 0) (by decide) (by decide) dX9_follow_144 ?_
                refine lv_iload hx hb dX9_follow_147 (lv_at hl 6 rfl) ?_
                refine st_ald C h (k := 0) (by decide) st_b0 (ix_o (by omega)) dX9_follow_149 (fun z24 ez24 iz24 => ?_)
                refine i_add hx hb dX9_follow_150 iv22_4 iz24 (lo := (-11)) (hi := 20) (by decide) (fun z25 ez25 mz25 iz25 => ?_)
                refine lv_istore (lv' := [(4, .int z25), (0, .ref u0), (1, .ref u1), (3, .int u3), (5, .int v22_5), (6, .int v44_6), (7, .int v44_7), (8, .int v22_8), (9, .int v44_9)]) hx hb dX9_follow_151 hl (by decide) rfl (fun ls hl => ?_)
                refine lv_iload hx hb dX9_follow_153 (lv_at hl 4 rfl) ?_
                refine st_getN C h (i := 1) (by decide) (by decide) dX9_follow_155 ?_
                refine lv_iload hx hb dX9_follow_158 (lv_at hl 6 rfl) ?_
                refine st_ald C h (k := 1) (by decide) st_b1 (ix_o (by omega)) dX9_follow_160 (fun z26 ez26 iz26 => ?_)
                refine i_add hx hb dX9_follow_161 iv22_5 iz26 (lo := (-11)) (hi := 20) (by decide) (fun z27 ez27 mz27 iz27 => ?_)
                refine lv_istore (lv' := [(5, .int z27), (4, .int z25), (0, .ref u0), (1, .ref u1), (3, .int u3), (6, .int v44_6), (7, .int v44_7), (8, .int v22_8), (9, .int v44_9)]) hx hb dX9_follow_162 hl (by decide) rfl (fun ls hl => ?_)
                refine i_inc hx hb dX9_follow_164 hl (k := 7) rfl jv44_8 rfl (lo := 1) (hi := 10) (by decide) (by decide) (lv' := fun v => [(8, .int v), (5, .int z27), (4, .int z25), (0, .ref u0), (1, .ref u1), (3, .int u3), (6, .int v44_6), (7, .int v44_7), (9, .int v44_9)]) (fun _ => rfl) (fun z28 ls ez28 mz28 iz28 hl => ?_)
                refine lv_goto (tgt := 22) hx hb dX9_follow_167 (by decide) ?_
                exact ih22 ls f_44 H locs z25 z27 v44_6 v44_7 z28 (show 10 - z28.toInt < _ by omega) (lv_cons hl 3 rfl (lv_cons hl 4 rfl (lv_cons hl 5 rfl (lv_cons hl 2 rfl (lv_cons hl 1 rfl (lv_cons hl 6 rfl (lv_cons hl 7 rfl (lv_cons hl 0 rfl (lv_nil hl))))))))) h t_44 o_44 (show iv z25 (-10) 19 from by omega) (show iv z27 (-10) 19 from by omega) iv44_6 (iv_w i18 (by decide)) (iv_w iz28 (by decide)) (show -z28.toInt ≤ z25.toInt by omega) (show z25.toInt ≤ 9 + z28.toInt by omega) (show -z28.toInt ≤ z27.toInt by omega) (show z27.toInt ≤ 9 + z28.toInt by omega)
              · have c23 : v44_7.toInt = (-1000000) := congrArg Int32.toInt c21
                exact (iv_cq_ c23 i18 (iv_k (x := (-1000000)) (k := (-1000000)) rfl) (by decide)).elim
            · have c19 : v44_7.toInt = (-1000000) := congrArg Int32.toInt c16
              have i20 : iv v44_7 (-1000000) (-1000000) := iv_Q c19 iv44_7 (iv_k (x := (-1000000)) (k := (-1000000)) rfl) (by decide)
              refine lv_aload_n hx hb dX9_follow_58 rfl (lv_at hl 1 rfl) ?_
              refine t_getr (tq := 2) C h t_44 hu1 (by decide) wf_1 rfl fl_X9_50 dX9_follow_59 (fun q29 tq29 => ?_)
              refine lv_iload hx hb dX9_follow_62 (lv_at hl 8 rfl) ?_
              refine t_iald C h t_44 tq29 (by decide) wf_2 (iv_in i5 (by decide)) dX9_follow_64 (fun z30 iz30 => ?_)
              refine lv_if_ne (tgt := 72) hx hb dX9_follow_65 (by decide) (fun c31 => ?_) (fun c31 => ?_)
              · have c32 : z30.toInt ≠ 0 := fun z_ => c31 (Int32.toInt_inj.mp z_)
                have i33 : iv z30 1 9 := iv_Nl c32 iz30 (by decide)
                refine lv_aload_n hx hb dX9_follow_72 rfl (lv_at hl 0 rfl) ?_
                refine lv_aload_n hx hb dX9_follow_73 rfl (lv_at hl 0 rfl) ?_
                refine t_geti C h t_44 hu0 (by decide) wf_30 rfl fl_X9_25 dX9_follow_74 (fun z36 iz36 => ?_)
                refine lv_iload hx hb dX9_follow_77 (lv_at hl 7 rfl) ?_
                refine i_sub hx hb dX9_follow_79 iz36 jv44_8 (lo := (-9)) (hi := 10) (by decide) (fun z37 ez37 mz37 iz37 => ?_)
                refine lv_iconst (v := 1) hx hb dX9_follow_80 (by decide) ?_
                refine i_subk hx hb dX9_follow_81 iz37 (k := 1) rfl (lo := (-10)) (hi := 9) (by decide) (fun z38 ez38 mz38 iz38 => ?_)
                refine lv_iload hx hb dX9_follow_82 (lv_at hl 3 rfl) ?_
                refine st_getN C h (i := 0) (by decide) (by decide) dX9_follow_84 ?_
                refine lv_iload hx hb dX9_follow_87 (lv_at hl 8 rfl) ?_
                refine st_ald C h (k := 0) (by decide) st_b0 (iv_in i5 (by decide)) dX9_follow_89 (fun z39 ez39 iz39 => ?_)
                refine i_add hx hb dX9_follow_90 iv22_4 iz39 (lo := (-11)) (hi := 20) (by decide) (fun z40 ez40 mz40 iz40 => ?_)
                refine lv_iload hx hb dX9_follow_91 (lv_at hl 4 rfl) ?_
                refine st_getN C h (i := 1) (by decide) (by decide) dX9_follow_93 ?_
                refine lv_iload hx hb dX9_follow_96 (lv_at hl 8 rfl) ?_
                refine st_ald C h (k := 1) (by decide) st_b1 (iv_in i5 (by decide)) dX9_follow_98 (fun z41 ez41 iz41 => ?_)
                refine i_add hx hb dX9_follow_99 iv22_5 iz41 (lo := (-11)) (hi := 20) (by decide) (fun z42 ez42 mz42 iz42 => ?_)
                obtain ⟨_, r43⟩ := t_rec t_44 hu0 (by decide) wf_30
                refine k_i (r_V C h hl (As := [.int z38, .int z40, .int z42]) (rest := []) (s_X9_ways l D G b0 τ f_44 t_44 u0 hu0 z38 (iv_w iz38 (by decide)) z40 (iv_w iz40 (by decide)) z42 (iv_w iz42 (by decide))) r43 (Cn := RX9) (T := TX9) (N := 4) rfl rfl mk_X9_ways w_880 w_882 w_25 w_883 ⟨Nat.le_of_ble_eq_true rfl, Nat.le_of_ble_eq_true rfl⟩ rfl (Nat.le_of_ble_eq_true rfl) ⟨Nat.le_of_ble_eq_true rfl, Nat.le_of_ble_eq_true rfl⟩ rfl dX9_follow_100) h (fun r44 f45 H locs p46 h => ?_)
                obtain ⟨ir44, tf45, ogf45⟩ := p46
                have egf45 := Fr.nil2 ogf45
                subst egf45
                refine lv_istore (lv' := [(10, .int r44), (0, .ref u0), (1, .ref u1), (3, .int u3), (4, .int v22_4), (5, .int v22_5), (6, .int v44_6), (7, .int v44_7), (8, .int v22_8), (9, .int v44_9)]) hx hb dX9_follow_103 hl (by decide) rfl (fun ls hl => ?_)
                refine lv_iload hx hb dX9_follow_105 (lv_at hl 6 rfl) ?_
                refine lv_iload hx hb dX9_follow_107 (lv_at hl 0 rfl) ?_
                refine lv_icmp_ge (tgt := 119) hx hb dX9_follow_109 (by decide) (fun c47 => ?_) (fun c47 => ?_)
                · have c48 : r44.toInt ≤ v44_6.toInt := Int32.le_iff_toInt_le.mp c47
                  refine lv_iload hx hb dX9_follow_119 (lv_at hl 6 rfl) ?_
                  refine lv_iload hx hb dX9_follow_121 (lv_at hl 0 rfl) ?_
                  refine lv_isub hx hb dX9_follow_123 (i_top (iv_any _) (fun z52 ez52 iz52 => ?_))
                  refine lv_istore (lv' := [(6, .int z52), (10, .int r44), (0, .ref u0), (1, .ref u1), (3, .int u3), (4, .int v22_4), (5, .int v22_5), (7, .int v44_7), (8, .int v22_8), (9, .int v44_9)]) hx hb dX9_follow_124 hl (by decide) rfl (fun ls hl => ?_)
                  refine i_inc hx hb dX9_follow_126 hl (k := 9) rfl i5 rfl (lo := 1) (hi := 8) (by decide) (by decide) (lv' := fun v => [(9, .int v), (6, .int z52), (10, .int r44), (0, .ref u0), (1, .ref u1), (3, .int u3), (4, .int v22_4), (5, .int v22_5), (7, .int v44_7), (8, .int v22_8)]) (fun _ => rfl) (fun z53 ls ez53 mz53 iz53 hl => ?_)
                  refine lv_goto (tgt := 44) hx hb dX9_follow_129 (by decide) ?_
                  exact ih44 ls f_44 H locs z52 v44_7 z53 (show 8 - z53.toInt < _ by omega) (lv_cons hl 3 rfl (lv_cons hl 4 rfl (lv_cons hl 5 rfl (lv_cons hl 6 rfl (lv_cons hl 7 rfl (lv_cons hl 1 rfl (lv_cons hl 8 rfl (lv_cons hl 9 rfl (lv_cons hl 0 rfl (lv_nil hl)))))))))) h t_44 o_44 jv44_3 iz52 (iv_w i20 (by decide)) jv44_8 (iv_w iz53 (by decide)) (show v44_7.toInt = -1000000 ∨ 0 ≤ v44_7.toInt by omega)
                · have c49 : v44_6.toInt < r44.toInt := Int32.lt_iff_toInt_lt.mp (iv_nle c47)
                  have i50 : iv v44_6 (-2147483648) 2147483646 := iv_Ll c49 iv44_6 ir44 (by decide)
                  have i51 : iv r44 (-2147483647) 2147483647 := iv_Lr c49 iv44_6 ir44 (by decide)
                  refine lv_iload hx hb dX9_follow_112 (lv_at hl 9 rfl) ?_
                  refine lv_istore (lv' := [(7, .int v44_9), (10, .int r44), (0, .ref u0), (1, .ref u1), (3, .int u3), (4, .int v22_4), (5, .int v22_5), (6, .int v44_6), (8, .int v22_8), (9, .int v44_9)]) hx hb dX9_follow_114 hl (by decide) rfl (fun ls hl => ?_)
                  refine lv_goto (tgt := 126) hx hb dX9_follow_116 (by decide) ?_
                  refine i_inc hx hb dX9_follow_126 hl (k := 9) rfl i5 rfl (lo := 1) (hi := 8) (by decide) (by decide) (lv' := fun v => [(9, .int v), (7, .int v44_9), (10, .int r44), (0, .ref u0), (1, .ref u1), (3, .int u3), (4, .int v22_4), (5, .int v22_5), (6, .int v44_6), (8, .int v22_8)]) (fun _ => rfl) (fun z54 ls ez54 mz54 iz54 hl => ?_)
                  refine lv_goto (tgt := 44) hx hb dX9_follow_129 (by decide) ?_
                  exact ih44 ls f_44 H locs v44_6 v44_9 z54 (show 8 - z54.toInt < _ by omega) (lv_cons hl 3 rfl (lv_cons hl 4 rfl (lv_cons hl 5 rfl (lv_cons hl 6 rfl (lv_cons hl 7 rfl (lv_cons hl 8 rfl (lv_cons hl 1 rfl (lv_cons hl 9 rfl (lv_cons hl 0 rfl (lv_nil hl)))))))))) h t_44 o_44 jv44_3 (iv_w i50 (by decide)) (iv_w i5 (by decide)) jv44_8 (iv_w iz54 (by decide)) (show v44_9.toInt = -1000000 ∨ 0 ≤ v44_9.toInt by omega)
              · have c34 : z30.toInt = 0 := congrArg Int32.toInt c31
                have i35 : iv z30 0 0 := iv_Q c34 iz30 (iv_k (x := 0) (k := 0) rfl) (by decide)
                refine lv_iconst (v := 0) hx hb dX9_follow_68 (by decide) ?_
                refine lv_goto (tgt := 103) hx hb dX9_follow_69 (by decide) ?_
                refine lv_istore (lv' := [(10, .int 0), (0, .ref u0), (1, .ref u1), (3, .int u3), (4, .int v22_4), (5, .int v22_5), (6, .int v44_6), (7, .int v44_7), (8, .int v22_8), (9, .int v44_9)]) hx hb dX9_follow_103 hl (by decide) rfl (fun ls hl => ?_)
                refine lv_iload hx hb dX9_follow_105 (lv_at hl 6 rfl) ?_
                refine lv_iload hx hb dX9_follow_107 (lv_at hl 0 rfl) ?_
                refine lv_icmp_ge (tgt := 119) hx hb dX9_follow_109 (by decide) (fun c55 => ?_) (fun c55 => ?_)
                · have c56 : 0 ≤ v44_6.toInt := Int32.le_iff_toInt_le.mp c55
                  have i57 : iv v44_6 0 2147483647 := iv_Er c56 (iv_k (x := 0) (k := 0) rfl) iv44_6 (by decide)
                  refine lv_iload hx hb dX9_follow_119 (lv_at hl 6 rfl) ?_
                  refine lv_iload hx hb dX9_follow_121 (lv_at hl 0 rfl) ?_
                  refine i_subk hx hb dX9_follow_123 i57 (k := 0) rfl (lo := 0) (hi := 2147483647) (by decide) (fun z60 ez60 mz60 iz60 => ?_)
                  refine lv_istore (lv' := [(6, .int z60), (10, .int 0), (0, .ref u0), (1, .ref u1), (3, .int u3), (4, .int v22_4), (5, .int v22_5), (7, .int v44_7), (8, .int v22_8), (9, .int v44_9)]) hx hb dX9_follow_124 hl (by decide) rfl (fun ls hl => ?_)
                  refine i_inc hx hb dX9_follow_126 hl (k := 9) rfl i5 rfl (lo := 1) (hi := 8) (by decide) (by decide) (lv' := fun v => [(9, .int v), (6, .int z60), (10, .int 0), (0, .ref u0), (1, .ref u1), (3, .int u3), (4, .int v22_4), (5, .int v22_5), (7, .int v44_7), (8, .int v22_8)]) (fun _ => rfl) (fun z61 ls ez61 mz61 iz61 hl => ?_)
                  refine lv_goto (tgt := 44) hx hb dX9_follow_129 (by decide) ?_
                  exact ih44 ls f_44 H locs z60 v44_7 z61 (show 8 - z61.toInt < _ by omega) (lv_cons hl 3 rfl (lv_cons hl 4 rfl (lv_cons hl 5 rfl (lv_cons hl 6 rfl (lv_cons hl 7 rfl (lv_cons hl 1 rfl (lv_cons hl 8 rfl (lv_cons hl 9 rfl (lv_cons hl 0 rfl (lv_nil hl)))))))))) h t_44 o_44 jv44_3 (iv_w iz60 (by decide)) (iv_w i20 (by decide)) jv44_8 (iv_w iz61 (by decide)) (show v44_7.toInt = -1000000 ∨ 0 ≤ v44_7.toInt by omega)
                · have c58 : v44_6.toInt < 0 := Int32.lt_iff_toInt_lt.mp (iv_nle c55)
                  have i59 : iv v44_6 (-2147483648) (-1) := iv_Ll c58 iv44_6 (iv_k (x := 0) (k := 0) rfl) (by decide)
                  refine lv_iload hx hb dX9_follow_112 (lv_at hl 9 rfl) ?_
                  refine lv_istore (lv' := [(7, .int v44_9), (10, .int 0), (0, .ref u0), (1, .ref u1), (3, .int u3), (4, .int v22_4), (5, .int v22_5), (6, .int v44_6), (8, .int v22_8), (9, .int v44_9)]) hx hb dX9_follow_114 hl (by decide) rfl (fun ls hl => ?_)
                  refine lv_goto (tgt := 126) hx hb dX9_follow_116 (by decide) ?_
                  refine i_inc hx hb dX9_follow_126 hl (k := 9) rfl i5 rfl (lo := 1) (hi := 8) (by decide) (by decide) (lv' := fun v => [(9, .int v), (7, .int v44_9), (10, .int 0), (0, .ref u0), (1, .ref u1), (3, .int u3), (4, .int v22_4), (5, .int v22_5), (6, .int v44_6), (8, .int v22_8)]) (fun _ => rfl) (fun z62 ls ez62 mz62 iz62 hl => ?_)
                  refine lv_goto (tgt := 44) hx hb dX9_follow_129 (by decide) ?_
                  exact ih44 ls f_44 H locs v44_6 v44_9 z62 (show 8 - z62.toInt < _ by omega) (lv_cons hl 3 rfl (lv_cons hl 4 rfl (lv_cons hl 5 rfl (lv_cons hl 6 rfl (lv_cons hl 7 rfl (lv_cons hl 8 rfl (lv_cons hl 1 rfl (lv_cons hl 9 rfl (lv_cons hl 0 rfl (lv_nil hl)))))))))) h t_44 o_44 jv44_3 (iv_w i59 (by decide)) (iv_w i5 (by decide)) jv44_8 (iv_w iz62 (by decide)) (show v44_9.toInt = -1000000 ∨ 0 ≤ v44_9.toInt by omega)
      refine lv_iload hx hb dX9_follow_22 (lv_at hl 7 rfl) ?_
      refine lv_iload_n hx hb dX9_follow_24 rfl (lv_at hl 2 rfl) ?_
      refine lv_icmp_gt (tgt := 170) hx hb dX9_follow_25 (by decide) (fun c63 => ?_) (fun c63 => ?_)
      · have c64 : u3.toInt < v22_8.toInt := Int32.lt_iff_toInt_lt.mp c63
        have i65 : iv u3 (-2147483648) 9 := iv_Ll c64 hu3 iv22_8 (by decide)
        refine lv_iload hx hb dX9_follow_170 (lv_at hl 6 rfl) ?_
        exact u_iret C h hr hQ (⟨iv22_7, t_22, o_22⟩) (Nat.le_of_ble_eq_true rfl) (Nat.le_of_ble_eq_true rfl) dX9_follow_172
      · have c66 : v22_8.toInt ≤ u3.toInt := Int32.le_iff_toInt_le.mp (iv_nlt c63)
        have i67 : iv u3 0 2147483647 := iv_Er c66 iv22_8 hu3 (by decide)
        refine lv_iload hx hb dX9_follow_28 (lv_at hl 7 rfl) ?_
        refine lv_aload_n hx hb dX9_follow_30 rfl (lv_at hl 0 rfl) ?_
        refine t_geti C h t_22 hu0 (by decide) wf_30 rfl fl_X9_25 dX9_follow_31 (fun z68 iz68 => ?_)
        refine lv_icmp_ge (tgt := 170) hx hb dX9_follow_34 (by decide) (fun c69 => ?_) (fun c69 => ?_)
        · have c70 : z68.toInt ≤ v22_8.toInt := Int32.le_iff_toInt_le.mp c69
          refine lv_iload hx hb dX9_follow_170 (lv_at hl 6 rfl) ?_
          exact u_iret C h hr hQ (⟨iv22_7, t_22, o_22⟩) (Nat.le_of_ble_eq_true rfl) (Nat.le_of_ble_eq_true rfl) dX9_follow_172
        · have c71 : v22_8.toInt < z68.toInt := Int32.lt_iff_toInt_lt.mp (iv_nle c69)
          have i72 : iv v22_8 0 9 := iv_Ll c71 iv22_8 iz68 (by decide)
          have i73 : iv z68 1 10 := iv_Lr c71 iv22_8 iz68 (by decide)
          refine lv_ldc (v := -1000000) hx hb hown (hts _ w_889) dX9_follow_37 ?_
          refine lv_istore (lv' := [(7, .int (-1000000)), (0, .ref u0), (1, .ref u1), (3, .int u3), (4, .int v22_4), (5, .int v22_5), (6, .int v22_6), (8, .int v22_8)]) hx hb dX9_follow_39 hl (by decide) rfl (fun ls hl => ?_)
          refine lv_iconst (v := 0) hx hb dX9_follow_41 (by decide) ?_
          refine lv_istore (lv' := [(9, .int 0), (7, .int (-1000000)), (0, .ref u0), (1, .ref u1), (3, .int u3), (4, .int v22_4), (5, .int v22_5), (6, .int v22_6), (8, .int v22_8)]) hx hb dX9_follow_42 hl (by decide) rfl (fun ls hl => ?_)
          exact L44 9 ls f_22 H locs v22_6 (-1000000) 0 (by decide) (lv_cons hl 2 rfl (lv_cons hl 3 rfl (lv_cons hl 4 rfl (lv_cons hl 5 rfl (lv_cons hl 6 rfl (lv_cons hl 7 rfl (lv_cons hl 1 rfl (lv_cons hl 8 rfl (lv_cons hl 0 rfl (lv_nil hl)))))))))) h t_22 o_22 i67 iv22_6 ⟨by decide, by decide⟩ i72 ⟨by decide, by decide⟩ (show (-1000000) = -1000000 ∨ 0 ≤ (-1000000) by omega)
  refine lv_aload_n hx hb dX9_follow_0 rfl (lv_at hl 0 rfl) ?_
  refine t_geti C h t hu0 (by decide) wf_30 rfl fl_X9_34 dX9_follow_1 (fun z74 iz74 => ?_)
  refine lv_istore (lv' := [(4, .int z74), (0, .ref u0), (1, .ref u1), (2, .int u2), (3, .int u3)]) hx hb dX9_follow_4 hl (by decide) rfl (fun ls hl => ?_)
  refine lv_aload_n hx hb dX9_follow_6 rfl (lv_at hl 1 rfl) ?_
  refine t_geti C h t hu0 (by decide) wf_30 rfl fl_X9_38 dX9_follow_7 (fun z75 iz75 => ?_)
  refine lv_istore (lv' := [(5, .int z75), (4, .int z74), (0, .ref u0), (1, .ref u1), (2, .int u2), (3, .int u3)]) hx hb dX9_follow_10 hl (by decide) rfl (fun ls hl => ?_)
  refine lv_iload_n hx hb dX9_follow_12 rfl (lv_at hl 4 rfl) ?_
  refine lv_istore (lv' := [(6, .int u2), (5, .int z75), (4, .int z74), (0, .ref u0), (1, .ref u1), (2, .int u2), (3, .int u3)]) hx hb dX9_follow_13 hl (by decide) rfl (fun ls hl => ?_)
  refine lv_ldc (v := -1000000) hx hb hown (hts _ w_889) dX9_follow_15 ?_
  refine lv_istore (lv' := [(7, .int (-1000000)), (6, .int u2), (5, .int z75), (4, .int z74), (0, .ref u0), (1, .ref u1), (2, .int u2), (3, .int u3)]) hx hb dX9_follow_17 hl (by decide) rfl (fun ls hl => ?_)
  refine lv_iconst (v := 0) hx hb dX9_follow_19 (by decide) ?_
  refine lv_istore (lv' := [(8, .int 0), (7, .int (-1000000)), (6, .int u2), (5, .int z75), (4, .int z74), (0, .ref u0), (1, .ref u1), (2, .int u2), (3, .int u3)]) hx hb dX9_follow_20 hl (by decide) rfl (fun ls hl => ?_)
  exact L22 11 ls f s.heap [] z74 z75 u2 (-1000000) 0 (by decide) (lv_cons hl 5 rfl (lv_cons hl 6 rfl (lv_cons hl 8 rfl (lv_cons hl 4 rfl (lv_cons hl 3 rfl (lv_cons hl 2 rfl (lv_cons hl 1 rfl (lv_cons hl 0 rfl (lv_nil hl))))))))) h t o (iv_w iz74 (by decide)) (iv_w iz75 (by decide)) hu2 ⟨by decide, by decide⟩ ⟨by decide, by decide⟩ (show -0 ≤ z74.toInt by omega) (show z74.toInt ≤ 9 + 0 by omega) (show -0 ≤ z75.toInt by omega) (show z75.toInt ≤ 9 + 0 by omega)
abbrev rm_s_J7_fill_53178t47 : Room := { frames := 0, cells := 0, slots := 0, locals := 0 }
set_option maxRecDepth 100000 in
set_option maxHeartbeats 4000000 in
theorem s_J7_fill_53178t47 (l : Launch) (D : va_G) (G : Nat → Nat) (b0 : Nat) (τ : Nat → Nat) (f : hM) (t : TI G 9 τ f) (u0 : Nat) (hu0 : τ u0 = 47) (u1 : Int32) (hu1 : iv u1 0 0) : mV l yJ7_fill_53178 cJ7_fill_53178 4 rm_s_J7_fill_53178t47 D G b0 f [.ref u0, .int u1] (fun f1 => TI G 9 τ f1 ∧ Fr [47] τ f f1) := by
  refine met2 (own := RJ7) (by decide) rfl (Nat.le_of_ble_eq_true rfl) ?_
  intro p e s m args below meth c ls Q hQ C hr hini hl h
  have hl : lv_has ls 4 [(0, .ref u0), (1, .int u1)] := hl
  obtain ⟨hx, hb, hml, hown, hts, hE0, hlk⟩ := id C
  have o := Fr.rf [47] τ f
  have L5 : ∀ (n5 : Nat) (ls : Array Slot) (f_5 : hM) (H : Heap) (locs : List Loc) (v5_2 : Int32) (v5_3 : Int32), 61 - v5_2.toInt < (n5 : Int) → lv_has ls 4 [(0, .ref u0), (1, .int u1), (2, .int v5_2), (3, .int v5_3)] → hw D b0 s.heap f_5 H locs → TI G 9 τ f_5 → Fr [47] τ f f_5 → iv v5_2 0 61 → iv v5_3 61 61 → W p l e rm_s_J7_fill_53178t47 s m args below meth c H locs 0 0 Q (F0 m 5 ls []) := by
    intro n5
    induction n5 with
    | zero => intro ls f_5 H locs v5_2 v5_3 hm5 hl h t_5 o_5 iv5_2 iv5_3; exact absurd hm5 (by omega)
    | succ n5 ih5 =>
      intro ls f_5 H locs v5_2 v5_3 hm5 hl h t_5 o_5 iv5_2 iv5_3
      refine lv_iload_n hx hb dJ7_fill_53178_5 rfl (lv_at hl 2 rfl) ?_
      refine lv_iload_n hx hb dJ7_fill_53178_6 rfl (lv_at hl 3 rfl) ?_
      refine lv_icmp_ge (tgt := 20) hx hb dJ7_fill_53178_7 (by decide) (fun c1 => ?_) (fun c1 => ?_)
      · have c2 : v5_3.toInt ≤ v5_2.toInt := Int32.le_iff_toInt_le.mp c1
        have i3 : iv v5_2 61 61 := iv_Er c2 iv5_3 iv5_2 (by decide)
        exact u_vret C h hr hQ (⟨t_5, o_5⟩) (Nat.le_of_ble_eq_true rfl) (Nat.le_of_ble_eq_true rfl) dJ7_fill_53178_20
      · have c4 : v5_2.toInt < v5_3.toInt := Int32.lt_iff_toInt_lt.mp (iv_nle c1)
        have i5 : iv v5_2 0 60 := iv_Ll c4 iv5_2 iv5_3 (by decide)
        refine lv_aload_n hx hb dJ7_fill_53178_10 rfl (lv_at hl 0 rfl) ?_
        refine lv_iload_n hx hb dJ7_fill_53178_11 rfl (lv_at hl 2 rfl) ?_
        refine lv_iload_n hx hb dJ7_fill_53178_12 rfl (lv_at hl 1 rfl) ?_
        refine t_iast C h t_5 o_5 hu0 (by decide) (by decide) wf_47 fw_47 (iv_in i5 (by decide)) (iv_w hu1 (by decide)) dJ7_fill_53178_13 (fun f6 H locs h tf6 of6 hq => ?_)
        refine i_inc hx hb dJ7_fill_53178_14 hl (k := 2) rfl i5 rfl (lo := 1) (hi := 61) (by decide) (by decide) (lv' := fun v => [(2, .int v), (0, .ref u0), (1, .int u1), (3, .int v5_3)]) (fun _ => rfl) (fun z7 ls ez7 mz7 iz7 hl => ?_)
        refine lv_goto (tgt := 5) hx hb dJ7_fill_53178_17 (by decide) ?_
        exact ih5 ls f6 H locs z7 v5_3 (show 61 - z7.toInt < _ by omega) (lv_cons hl 1 rfl (lv_cons hl 2 rfl (lv_cons hl 0 rfl (lv_cons hl 3 rfl (lv_nil hl))))) h tf6 of6 (iv_w iz7 (by decide)) iv5_3
  refine lv_iconst (v := 0) hx hb dJ7_fill_53178_0 (by decide) ?_
  refine lv_istore_n (lv' := [(2, .int 0), (0, .ref u0), (1, .int u1)]) hx hb dJ7_fill_53178_1 rfl hl (by decide) rfl (fun ls hl => ?_)
  refine lv_aload_n hx hb dJ7_fill_53178_2 rfl (lv_at hl 1 rfl) ?_
  refine t_alen C h t hu0 (by decide) (n := 61) (v := 61) (fun e_ h_ => Or.inl ⟨_, _, wf_47 e_ h_⟩) rfl dJ7_fill_53178_3 ?_
  refine lv_istore_n (lv' := [(3, .int 61), (2, .int 0), (0, .ref u0), (1, .int u1)]) hx hb dJ7_fill_53178_4 rfl hl (by decide) rfl (fun ls hl => ?_)
  exact L5 62 ls f s.heap [] 0 61 (by decide) (lv_cons hl 2 rfl (lv_cons hl 3 rfl (lv_cons hl 1 rfl (lv_cons hl 0 rfl (lv_nil hl))))) h t o ⟨by decide, by decide⟩ ⟨by decide, by decide⟩
abbrev rm_s_J7_fill_53178t48 : Room := { frames := 0, cells := 0, slots := 0, locals := 0 }
set_option maxRecDepth 100000 in
set_option maxHeartbeats 4000000 in
theorem s_J7_fill_53178t48 (l : Launch) (D : va_G) (G : Nat → Nat) (b0 : Nat) (τ : Nat → Nat) (f : hM) (t : TI G 9 τ f) (u0 : Nat) (hu0 : τ u0 = 48) (u1 : Int32) (hu1 : iv u1 0 0) : mV l yJ7_fill_53178 cJ7_fill_53178 4 rm_s_J7_fill_53178t48 D G b0 f [.ref u0, .int u1] (fun f1 => TI G 9 τ f1 ∧ Fr [48] τ f f1) := by
  refine met2 (own := RJ7) (by decide) rfl (Nat.le_of_ble_eq_true rfl) ?_
  intro p e s m args below meth c ls Q hQ C hr hini hl h
  have hl : lv_has ls 4 [(0, .ref u0), (1, .int u1)] := hl
  obtain ⟨hx, hb, hml, hown, hts, hE0, hlk⟩ := id C
  have o := Fr.rf [48] τ f
  have L5 : ∀ (n5 : Nat) (ls : Array Slot) (f_5 : hM) (H : Heap) (locs : List Loc) (v5_2 : Int32) (v5_3 : Int32), 28 - v5_2.toInt < (n5 : Int) → lv_has ls 4 [(0, .ref u0), (1, .int u1), (2, .int v5_2), (3, .int v5_3)] → hw D b0 s.heap f_5 H locs → TI G 9 τ f_5 → Fr [48] τ f f_5 → iv v5_2 0 28 → iv v5_3 28 28 → W p l e rm_s_J7_fill_53178t48 s m args below meth c H locs 0 0 Q (F0 m 5 ls []) := by
    intro n5
    induction n5 with
    | zero => intro ls f_5 H locs v5_2 v5_3 hm5 hl h t_5 o_5 iv5_2 iv5_3; exact absurd hm5 (by omega)
    | succ n5 ih5 =>
      intro ls f_5 H locs v5_2 v5_3 hm5 hl h t_5 o_5 iv5_2 iv5_3
      refine lv_iload_n hx hb dJ7_fill_53178_5 rfl (lv_at hl 2 rfl) ?_
      refine lv_iload_n hx hb dJ7_fill_53178_6 rfl (lv_at hl 3 rfl) ?_
      refine lv_icmp_ge (tgt := 20) hx hb dJ7_fill_53178_7 (by decide) (fun c1 => ?_) (fun c1 => ?_)
      · have c2 : v5_3.toInt ≤ v5_2.toInt := Int32.le_iff_toInt_le.mp c1
        have i3 : iv v5_2 28 28 := iv_Er c2 iv5_3 iv5_2 (by decide)
        exact u_vret C h hr hQ (⟨t_5, o_5⟩) (Nat.le_of_ble_eq_true rfl) (Nat.le_of_ble_eq_true rfl) dJ7_fill_53178_20
      · have c4 : v5_2.toInt < v5_3.toInt := Int32.lt_iff_toInt_lt.mp (iv_nle c1)
        have i5 : iv v5_2 0 27 := iv_Ll c4 iv5_2 iv5_3 (by decide)
        refine lv_aload_n hx hb dJ7_fill_53178_10 rfl (lv_at hl 0 rfl) ?_
        refine lv_iload_n hx hb dJ7_fill_53178_11 rfl (lv_at hl 2 rfl) ?_
        refine lv_iload_n hx hb dJ7_fill_53178_12 rfl (lv_at hl 1 rfl) ?_
        refine t_iast C h t_5 o_5 hu0 (by decide) (by decide) wf_48 fw_48 (iv_in i5 (by decide)) (iv_w hu1 (by decide)) dJ7_fill_53178_13 (fun f6 H locs h tf6 of6 hq => ?_)
        refine i_inc hx hb dJ7_fill_53178_14 hl (k := 2) rfl i5 rfl (lo := 1) (hi := 28) (by decide) (by decide) (lv' := fun v => [(2, .int v), (0, .ref u0), (1, .int u1), (3, .int v5_3)]) (fun _ => rfl) (fun z7 ls ez7 mz7 iz7 hl => ?_)
        refine lv_goto (tgt := 5) hx hb dJ7_fill_53178_17 (by decide) ?_
        exact ih5 ls f6 H locs z7 v5_3 (show 28 - z7.toInt < _ by omega) (lv_cons hl 1 rfl (lv_cons hl 2 rfl (lv_cons hl 0 rfl (lv_cons hl 3 rfl (lv_nil hl))))) h tf6 of6 (iv_w iz7 (by decide)) iv5_3
  refine lv_iconst (v := 0) hx hb dJ7_fill_53178_0 (by decide) ?_
  refine lv_istore_n (lv' := [(2, .int 0), (0, .ref u0), (1, .int u1)]) hx hb dJ7_fill_53178_1 rfl hl (by decide) rfl (fun ls hl => ?_)
  refine lv_aload_n hx hb dJ7_fill_53178_2 rfl (lv_at hl 1 rfl) ?_
  refine t_alen C h t hu0 (by decide) (n := 28) (v := 28) (fun e_ h_ => Or.inl ⟨_, _, wf_48 e_ h_⟩) rfl dJ7_fill_53178_3 ?_
  refine lv_istore_n (lv' := [(3, .int 28), (2, .int 0), (0, .ref u0), (1, .int u1)]) hx hb dJ7_fill_53178_4 rfl hl (by decide) rfl (fun ls hl => ?_)
  exact L5 29 ls f s.heap [] 0 28 (by decide) (lv_cons hl 2 rfl (lv_cons hl 3 rfl (lv_cons hl 1 rfl (lv_cons hl 0 rfl (lv_nil hl))))) h t o ⟨by decide, by decide⟩ ⟨by decide, by decide⟩
abbrev rm_s_J7_fill_53178t14 : Room := { frames := 0, cells := 0, slots := 0, locals := 0 }
set_option maxRecDepth 100000 in
set_option maxHeartbeats 4000000 in
theorem s_J7_fill_53178t14 (l : Launch) (D : va_G) (G : Nat → Nat) (b0 : Nat) (τ : Nat → Nat) (f : hM) (t : TI G 9 τ f) (u0 : Nat) (hu0 : τ u0 = 14) (u1 : Int32) (hu1 : iv u1 0 0) : mV l yJ7_fill_53178 cJ7_fill_53178 4 rm_s_J7_fill_53178t14 D G b0 f [.ref u0, .int u1] (fun f1 => TI G 9 τ f1 ∧ Fr [14] τ f f1) := by
  refine met2 (own := RJ7) (by decide) rfl (Nat.le_of_ble_eq_true rfl) ?_
  intro p e s m args below meth c ls Q hQ C hr hini hl h
  have hl : lv_has ls 4 [(0, .ref u0), (1, .int u1)] := hl
  obtain ⟨hx, hb, hml, hown, hts, hE0, hlk⟩ := id C
  have o := Fr.rf [14] τ f
  have L5 : ∀ (n5 : Nat) (ls : Array Slot) (f_5 : hM) (H : Heap) (locs : List Loc) (v5_2 : Int32) (v5_3 : Int32), 8 - v5_2.toInt < (n5 : Int) → lv_has ls 4 [(0, .ref u0), (1, .int u1), (2, .int v5_2), (3, .int v5_3)] → hw D b0 s.heap f_5 H locs → TI G 9 τ f_5 → Fr [14] τ f f_5 → iv v5_2 0 8 → iv v5_3 8 8 → W p l e rm_s_J7_fill_53178t14 s m args below meth c H locs 0 0 Q (F0 m 5 ls []) := by
    intro n5
    induction n5 with
    | zero => intro ls f_5 H locs v5_2 v5_3 hm5 hl h t_5 o_5 iv5_2 iv5_3; exact absurd hm5 (by omega)
    | succ n5 ih5 =>
      intro ls f_5 H locs v5_2 v5_3 hm5 hl h t_5 o_5 iv5_2 iv5_3
      refine lv_iload_n hx hb dJ7_fill_53178_5 rfl (lv_at hl 2 rfl) ?_
      refine lv_iload_n hx hb dJ7_fill_53178_6 rfl (lv_at hl 3 rfl) ?_
      refine lv_icmp_ge (tgt := 20) hx hb dJ7_fill_53178_7 (by decide) (fun c1 => ?_) (fun c1 => ?_)
      · have c2 : v5_3.toInt ≤ v5_2.toInt := Int32.le_iff_toInt_le.mp c1
        have i3 : iv v5_2 8 8 := iv_Er c2 iv5_3 iv5_2 (by decide)
        exact u_vret C h hr hQ (⟨t_5, o_5⟩) (Nat.le_of_ble_eq_true rfl) (Nat.le_of_ble_eq_true rfl) dJ7_fill_53178_20
      · have c4 : v5_2.toInt < v5_3.toInt := Int32.lt_iff_toInt_lt.mp (iv_nle c1)
        have i5 : iv v5_2 0 7 := iv_Ll c4 iv5_2 iv5_3 (by decide)
        refine lv_aload_n hx hb dJ7_fill_53178_10 rfl (lv_at hl 0 rfl) ?_
        refine lv_iload_n hx hb dJ7_fill_53178_11 rfl (lv_at hl 2 rfl) ?_
        refine lv_iload_n hx hb dJ7_fill_53178_12 rfl (lv_at hl 1 rfl) ?_
        refine t_iast C h t_5 o_5 hu0 (by decide) (by decide) wf_14 fw_14 (iv_in i5 (by decide)) (iv_w hu1 (by decide)) dJ7_fill_53178_13 (fun f6 H locs h tf6 of6 hq => ?_)
        refine i_inc hx hb dJ7_fill_53178_14 hl (k := 2) rfl i5 rfl (lo := 1) (hi := 8) (by decide) (by decide) (lv' := fun v => [(2, .int v), (0, .ref u0), (1, .int u1), (3, .int v5_3)]) (fun _ => rfl) (fun z7 ls ez7 mz7 iz7 hl => ?_)
        refine lv_goto (tgt := 5) hx hb dJ7_fill_53178_17 (by decide) ?_
        exact ih5 ls f6 H locs z7 v5_3 (show 8 - z7.toInt < _ by omega) (lv_cons hl 1 rfl (lv_cons hl 2 rfl (lv_cons hl 0 rfl (lv_cons hl 3 rfl (lv_nil hl))))) h tf6 of6 (iv_w iz7 (by decide)) iv5_3
  refine lv_iconst (v := 0) hx hb dJ7_fill_53178_0 (by decide) ?_
  refine lv_istore_n (lv' := [(2, .int 0), (0, .ref u0), (1, .int u1)]) hx hb dJ7_fill_53178_1 rfl hl (by decide) rfl (fun ls hl => ?_)
  refine lv_aload_n hx hb dJ7_fill_53178_2 rfl (lv_at hl 1 rfl) ?_
  refine t_alen C h t hu0 (by decide) (n := 8) (v := 8) (fun e_ h_ => Or.inl ⟨_, _, wf_14 e_ h_⟩) rfl dJ7_fill_53178_3 ?_
  refine lv_istore_n (lv' := [(3, .int 8), (2, .int 0), (0, .ref u0), (1, .int u1)]) hx hb dJ7_fill_53178_4 rfl hl (by decide) rfl (fun ls hl => ?_)
  exact L5 9 ls f s.heap [] 0 8 (by decide) (lv_cons hl 2 rfl (lv_cons hl 3 rfl (lv_cons hl 1 rfl (lv_cons hl 0 rfl (lv_nil hl))))) h t o ⟨by decide, by decide⟩ ⟨by decide, by decide⟩
abbrev rm_s_X3_isShapea : Room := { frames := 1, cells := 0, slots := 0, locals := 22 }
set_option maxRecDepth 100000 in
set_option maxHeartbeats 4000000 in
theorem s_X3_isShapea (l : Launch) (D : va_G) (G : Nat → Nat) (b0 : Nat) (τ : Nat → Nat) (f : hM) (t : TI G 9 τ f) (u0 : Int32) (hu0 : iv u0 0 0) (u1 : Int32) (hu1 : iv u1 (-2147483648) 2147483647) (u2 : Int32) (hu2 : iv u2 (-2147483648) 2147483647) : mI l yX3_isShape cX3_isShape 3 (.boolean) rm_s_X3_isShapea D G b0 f [.int u0, .int u1, .int u2] (fun r f1 => iv r 0 1 ∧ TI G 9 τ f1 ∧ Fr [] τ f f1 ∧ (r.toInt ≠ 0 → iv u1 1 4 ∧ iv u2 0 4)) := by
  refine met2 (own := RX3) (by decide) rfl (Nat.le_of_ble_eq_true rfl) ?_
  intro p e s m args below meth c ls Q hQ C hr hini hl h
  have hl : lv_has ls 3 [(0, .int u0), (1, .int u1), (2, .int u2)] := hl
  obtain ⟨hx, hb, hml, hown, hts, hE0, hlk⟩ := id C
  have o := Fr.rf [] τ f
  refine lv_iload_n hx hb dX3_isShape_0 rfl (lv_at hl 0 rfl) ?_
  refine lv_if_ne (tgt := 30) hx hb dX3_isShape_1 (by decide) (fun c1 => ?_) (fun c1 => ?_)
  · have c2 : u0.toInt ≠ 0 := fun z_ => c1 (Int32.toInt_inj.mp z_)
    exact (iv_cn_ c2 hu0 (iv_k (x := 0) (k := 0) rfl) (by decide)).elim
  · have c3 : u0.toInt = 0 := congrArg Int32.toInt c1
    refine lv_iload_n hx hb dX3_isShape_4 rfl (lv_at hl 1 rfl) ?_
    refine lv_iconst (v := 1) hx hb dX3_isShape_5 (by decide) ?_
    refine lv_iconst (v := 4) hx hb dX3_isShape_6 (by decide) ?_
    refine k_i (r_SN C h hl (host := "QuarterWalks") (As := [.int u1, .int 1, .int 4]) (rest := []) (s_X10_within l D G b0 τ f t u1 hu1 1 (iv_w (iv_k (x := 1) (k := 1) rfl) (by decide)) 4 (iv_w (iv_k (x := 4) (k := 4) rfl) (by decide))) mk_X10_within (by decide) w_426 w_427 ⟨Nat.le_of_ble_eq_true rfl, Nat.le_of_ble_eq_true rfl⟩ rfl (Nat.le_of_ble_eq_true rfl) ⟨Nat.le_of_ble_eq_true rfl, Nat.le_of_ble_eq_true rfl⟩ rfl dX3_isShape_7) h (fun r4 f5 H locs p6 h => ?_)
    have n7 : (1 : Int32).toInt = 1 := rfl
    have n8 : (4 : Int32).toInt = 4 := rfl
    obtain ⟨ir4, tf5, ogf5, cnr4, czr4⟩ := p6
    have egf5 := Fr.nil2 ogf5
    subst egf5
    refine lv_if_eq (tgt := 26) hx hb dX3_isShape_10 (by decide) (fun c9 => ?_) (fun c9 => ?_)
    · have c10 : r4.toInt = 0 := congrArg Int32.toInt c9
      have i11 : iv r4 0 0 := iv_Q c10 ir4 (iv_k (x := 0) (k := 0) rfl) (by decide)
      have i12 := czr4 c10
      refine lv_iconst (v := 0) hx hb dX3_isShape_26 (by decide) ?_
      refine lv_goto (tgt := 54) hx hb dX3_isShape_27 (by decide) ?_
      exact u_zret C h hr hQ ⟨by decide, by decide⟩ (⟨⟨by decide, by decide⟩, t, o, (fun h_ => absurd h_ (by decide))⟩) (Nat.le_of_ble_eq_true rfl) (Nat.le_of_ble_eq_true rfl) dX3_isShape_54
    · have c13 : r4.toInt ≠ 0 := fun z_ => c9 (Int32.toInt_inj.mp z_)
      have i14 : iv r4 1 1 := iv_Nl c13 ir4 (by decide)
      obtain ⟨i15, i16⟩ := cnr4 c13
      have i17 : iv u1 1 4 := ⟨by omega, by omega⟩
      refine lv_iload_n hx hb dX3_isShape_13 rfl (lv_at hl 2 rfl) ?_
      refine lv_iconst (v := 0) hx hb dX3_isShape_14 (by decide) ?_
      refine lv_iconst (v := 4) hx hb dX3_isShape_15 (by decide) ?_
      refine k_i (r_SN C h hl (host := "QuarterWalks") (As := [.int u2, .int 0, .int 4]) (rest := []) (s_X10_within l D G b0 τ f t u2 hu2 0 (iv_w (iv_k (x := 0) (k := 0) rfl) (by decide)) 4 (iv_w (iv_k (x := 4) (k := 4) rfl) (by decide))) mk_X10_within (by decide) w_426 w_427 ⟨Nat.le_of_ble_eq_true rfl, Nat.le_of_ble_eq_true rfl⟩ rfl (Nat.le_of_ble_eq_true rfl) ⟨Nat.le_of_ble_eq_true rfl, Nat.le_of_ble_eq_true rfl⟩ rfl dX3_isShape_16) h (fun r18 f19 H locs p20 h => ?_)
      have n21 : (0 : Int32).toInt = 0 := rfl
      have n22 : (4 : Int32).toInt = 4 := rfl
      obtain ⟨ir18, tf19, ogf19, cnr18, czr18⟩ := p20
      have egf19 := Fr.nil2 ogf19
      subst egf19
      refine lv_if_eq (tgt := 26) hx hb dX3_isShape_19 (by decide) (fun c23 => ?_) (fun c23 => ?_)
      · have c24 : r18.toInt = 0 := congrArg Int32.toInt c23
        have i25 : iv r18 0 0 := iv_Q c24 ir18 (iv_k (x := 0) (k := 0) rfl) (by decide)
        have i26 := czr18 c24
        refine lv_iconst (v := 0) hx hb dX3_isShape_26 (by decide) ?_
        refine lv_goto (tgt := 54) hx hb dX3_isShape_27 (by decide) ?_
        exact u_zret C h hr hQ ⟨by decide, by decide⟩ (⟨⟨by decide, by decide⟩, t, o, (fun h_ => absurd h_ (by decide))⟩) (Nat.le_of_ble_eq_true rfl) (Nat.le_of_ble_eq_true rfl) dX3_isShape_54
      · have c27 : r18.toInt ≠ 0 := fun z_ => c23 (Int32.toInt_inj.mp z_)
        have i28 : iv r18 1 1 := iv_Nl c27 ir18 (by decide)
        obtain ⟨i29, i30⟩ := cnr18 c27
        have i31 : iv u2 0 4 := ⟨by omega, by omega⟩
        refine lv_iconst (v := 1) hx hb dX3_isShape_22 (by decide) ?_
        refine lv_goto (tgt := 54) hx hb dX3_isShape_23 (by decide) ?_
        exact u_zret C h hr hQ ⟨by decide, by decide⟩ (⟨⟨by decide, by decide⟩, t, o, (fun _ => ⟨i17, i31⟩)⟩) (Nat.le_of_ble_eq_true rfl) (Nat.le_of_ble_eq_true rfl) dX3_isShape_54
abbrev rm_s_X3_multiply : Room := { frames := 1, cells := 0, slots := 0, locals := 23 }
set_option maxRecDepth 100000 in
set_option maxHeartbeats 4000000 in
theorem s_X3_multiply (l : Launch) (D : va_G) (G : Nat → Nat) (b0 : Nat) (τ : Nat → Nat) (f : hM) (t : TI G 9 τ f) (u0 : Nat) (hu0 : τ u0 = 47) (u1 : Nat) (hu1 : τ u1 = 47) (u2 : Nat) (hu2 : τ u2 = 47) : mV l yX3_multiply cX3_multiply 7 rm_s_X3_multiply D G b0 f [.ref u0, .ref u1, .ref u2] (fun f1 => TI G 9 τ f1 ∧ Fr [47] τ f f1) := by
  refine met2 (own := RX3) (by decide) rfl (Nat.le_of_ble_eq_true rfl) ?_
  intro p e s m args below meth c ls Q hQ C hr hini hl h
  have hl : lv_has ls 7 [(0, .ref u0), (1, .ref u1), (2, .ref u2)] := hl
  obtain ⟨hx, hb, hml, hown, hts, hE0, hlk⟩ := id C
  have o := Fr.rf [47] τ f
  have L2 : ∀ (n2 : Nat) (ls : Array Slot) (f_2 : hM) (H : Heap) (locs : List Loc) (v2_3 : Int32), 61 - v2_3.toInt < (n2 : Int) → lv_has ls 7 [(0, .ref u0), (1, .ref u1), (2, .ref u2), (3, .int v2_3)] → hw D b0 s.heap f_2 H locs → TI G 9 τ f_2 → Fr [47] τ f f_2 → iv v2_3 0 61 → W p l e rm_s_X3_multiply s m args below meth c H locs 0 0 Q (F0 m 2 ls []) := by
    intro n2
    induction n2 with
    | zero => intro ls f_2 H locs v2_3 hm2 hl h t_2 o_2 iv2_3; exact absurd hm2 (by omega)
    | succ n2 ih2 =>
      intro ls f_2 H locs v2_3 hm2 hl h t_2 o_2 iv2_3
      have L14 : ∀ (n14 : Nat) (ls : Array Slot) (f_14 : hM) (H : Heap) (locs : List Loc) (v14_4 : Int64) (v14_6 : Int32), 61 - v14_6.toInt < (n14 : Int) → lv_has ls 7 [(0, .ref u0), (1, .ref u1), (2, .ref u2), (3, .int v2_3), (4, .long v14_4), (6, .int v14_6)] → hw D b0 s.heap f_14 H locs → TI G 9 τ f_14 → Fr [47] τ f f_14 → iv v2_3 0 60 → iv v14_6 0 61 → W p l e rm_s_X3_multiply s m args below meth c H locs 0 0 Q (F0 m 14 ls []) := by
        intro n14
        induction n14 with
        | zero => intro ls f_14 H locs v14_4 v14_6 hm14 hl h t_14 o_14 jv14_3 iv14_6; exact absurd hm14 (by omega)
        | succ n14 ih14 =>
          intro ls f_14 H locs v14_4 v14_6 hm14 hl h t_14 o_14 jv14_3 iv14_6
          refine lv_iload hx hb dX3_multiply_14 (lv_at hl 5 rfl) ?_
          refine lv_iload_n hx hb dX3_multiply_16 rfl (lv_at hl 3 rfl) ?_
          refine lv_icmp_gt (tgt := 47) hx hb dX3_multiply_17 (by decide) (fun c1 => ?_) (fun c1 => ?_)
          · have c2 : v2_3.toInt < v14_6.toInt := Int32.lt_iff_toInt_lt.mp c1
            have i3 : iv v14_6 1 61 := iv_Lr c2 jv14_3 iv14_6 (by decide)
            refine lv_aload_n hx hb dX3_multiply_47 rfl (lv_at hl 2 rfl) ?_
            refine lv_iload_n hx hb dX3_multiply_48 rfl (lv_at hl 3 rfl) ?_
            refine lv_lload hx hb dX3_multiply_49 (lv_at hl 4 rfl) ?_
            refine k_i (r_SN C h hl (host := "QuarterWalks") (As := [.long v14_4]) (rest := [.int v2_3, .ref u2]) (s_X10_residue l D G b0 τ f_14 t_14 v14_4) mk_X10_residue (by decide) w_741 w_742 ⟨Nat.le_of_ble_eq_true rfl, Nat.le_of_ble_eq_true rfl⟩ rfl (Nat.le_of_ble_eq_true rfl) ⟨Nat.le_of_ble_eq_true rfl, Nat.le_of_ble_eq_true rfl⟩ rfl dX3_multiply_51) h (fun r6 f7 H locs p8 h => ?_)
            obtain ⟨ir6, tf7, ogf7⟩ := p8
            have egf7 := Fr.nil2 ogf7
            subst egf7
            refine t_iast C h t_14 o_14 hu2 (by decide) (by decide) wf_47 fw_47 (iv_in jv14_3 (by decide)) ir6 dX3_multiply_54 (fun f9 H locs h tf9 of9 hq => ?_)
            refine i_inc hx hb dX3_multiply_55 hl (k := 3) rfl jv14_3 rfl (lo := 1) (hi := 61) (by decide) (by decide) (lv' := fun v => [(3, .int v), (0, .ref u0), (1, .ref u1), (2, .ref u2), (4, .long v14_4), (6, .int v14_6)]) (fun _ => rfl) (fun z10 ls ez10 mz10 iz10 hl => ?_)
            refine lv_goto (tgt := 2) hx hb dX3_multiply_58 (by decide) ?_
            exact ih2 ls f9 H locs z10 (show 61 - z10.toInt < _ by omega) (lv_cons hl 1 rfl (lv_cons hl 2 rfl (lv_cons hl 3 rfl (lv_cons hl 0 rfl (lv_nil hl))))) h tf9 of9 (iv_w iz10 (by decide))
          · have c4 : v14_6.toInt ≤ v2_3.toInt := Int32.le_iff_toInt_le.mp (iv_nlt c1)
            have i5 : iv v14_6 0 60 := iv_El c4 iv14_6 jv14_3 (by decide)
            refine lv_lload hx hb dX3_multiply_20 (lv_at hl 4 rfl) ?_
            refine lv_aload_n hx hb dX3_multiply_22 rfl (lv_at hl 0 rfl) ?_
            refine lv_iload hx hb dX3_multiply_23 (lv_at hl 5 rfl) ?_
            refine t_iald C h t_14 hu0 (by decide) wf_47 (iv_in i5 (by decide)) dX3_multiply_25 (fun z11 iz11 => ?_)
            refine lv_i2l hx hb dX3_multiply_26 rfl (i_topL iz11 (fun w12 ew12 mw12 iw12 => ?_))
            refine lv_aload_n hx hb dX3_multiply_27 rfl (lv_at hl 1 rfl) ?_
            refine lv_iload_n hx hb dX3_multiply_28 rfl (lv_at hl 3 rfl) ?_
            refine lv_iload hx hb dX3_multiply_29 (lv_at hl 5 rfl) ?_
            refine i_sub hx hb dX3_multiply_31 jv14_3 i5 (lo := (-60)) (hi := 60) (by decide) (fun z13 ez13 mz13 iz13 => ?_)
            refine t_iald C h t_14 hu1 (by decide) wf_47 (ix_o (by omega)) dX3_multiply_32 (fun z14 iz14 => ?_)
            refine lv_i2l hx hb dX3_multiply_33 rfl (i_topL iz14 (fun w15 ew15 mw15 iw15 => ?_))
            refine k_i (r_SN C h hl (host := "QuarterWalks") (As := [.long w12, .long w15]) (rest := [.long v14_4]) (s_X10_times l D G b0 τ f_14 t_14 w12 w15) mk_X10_times (by decide) w_807 w_808 ⟨Nat.le_of_ble_eq_true rfl, Nat.le_of_ble_eq_true rfl⟩ rfl (Nat.le_of_ble_eq_true rfl) ⟨Nat.le_of_ble_eq_true rfl, Nat.le_of_ble_eq_true rfl⟩ rfl dX3_multiply_34) h (fun r16 f17 H locs p18 h => ?_)
            obtain ⟨ir16, tf17, ogf17⟩ := p18
            have egf17 := Fr.nil2 ogf17
            subst egf17
            refine lv_i2l hx hb dX3_multiply_37 rfl (i_topL ir16 (fun w19 ew19 mw19 iw19 => ?_))
            refine lv_ladd hx hb dX3_multiply_38 (lv_topl (fun w20 ew20 => ?_))
            refine lv_lstore (lv' := [(4, .long w20), (0, .ref u0), (1, .ref u1), (2, .ref u2), (3, .int v2_3), (6, .int v14_6)]) hx hb dX3_multiply_39 hl (by decide) rfl (fun ls hl => ?_)
            refine i_inc hx hb dX3_multiply_41 hl (k := 5) rfl i5 rfl (lo := 1) (hi := 61) (by decide) (by decide) (lv' := fun v => [(6, .int v), (4, .long w20), (0, .ref u0), (1, .ref u1), (2, .ref u2), (3, .int v2_3)]) (fun _ => rfl) (fun z21 ls ez21 mz21 iz21 hl => ?_)
            refine lv_goto (tgt := 14) hx hb dX3_multiply_44 (by decide) ?_
            exact ih14 ls f_14 H locs w20 z21 (show 61 - z21.toInt < _ by omega) (lv_cons hl 2 rfl (lv_cons hl 3 rfl (lv_cons hl 4 rfl (lv_cons hl 5 rfl (lv_cons hl 1 rfl (lv_cons hl 0 rfl (lv_nil hl))))))) h t_14 o_14 jv14_3 (iv_w iz21 (by decide))
      refine lv_iload_n hx hb dX3_multiply_2 rfl (lv_at hl 3 rfl) ?_
      refine lv_bipush (v := 61) hx hb dX3_multiply_3 (by decide) ?_
      refine lv_icmp_ge (tgt := 61) hx hb dX3_multiply_5 (by decide) (fun c22 => ?_) (fun c22 => ?_)
      · have c23 : 61 ≤ v2_3.toInt := Int32.le_iff_toInt_le.mp c22
        have i24 : iv v2_3 61 61 := iv_Er c23 (iv_k (x := 61) (k := 61) rfl) iv2_3 (by decide)
        exact u_vret C h hr hQ (⟨t_2, o_2⟩) (Nat.le_of_ble_eq_true rfl) (Nat.le_of_ble_eq_true rfl) dX3_multiply_61
      · have c25 : v2_3.toInt < 61 := Int32.lt_iff_toInt_lt.mp (iv_nle c22)
        have i26 : iv v2_3 0 60 := iv_Ll c25 iv2_3 (iv_k (x := 61) (k := 61) rfl) (by decide)
        refine lv_lconst (v := 0) hx hb dX3_multiply_8 (by decide) ?_
        refine lv_lstore (lv' := [(4, .long 0), (0, .ref u0), (1, .ref u1), (2, .ref u2), (3, .int v2_3)]) hx hb dX3_multiply_9 hl (by decide) rfl (fun ls hl => ?_)
        refine lv_iconst (v := 0) hx hb dX3_multiply_11 (by decide) ?_
        refine lv_istore (lv' := [(6, .int 0), (4, .long 0), (0, .ref u0), (1, .ref u1), (2, .ref u2), (3, .int v2_3)]) hx hb dX3_multiply_12 hl (by decide) rfl (fun ls hl => ?_)
        exact L14 62 ls f_2 H locs 0 0 (by decide) (lv_cons hl 2 rfl (lv_cons hl 3 rfl (lv_cons hl 4 rfl (lv_cons hl 5 rfl (lv_cons hl 1 rfl (lv_cons hl 0 rfl (lv_nil hl))))))) h t_2 o_2 i26 ⟨by decide, by decide⟩
  refine lv_iconst (v := 0) hx hb dX3_multiply_0 (by decide) ?_
  refine lv_istore_n (lv' := [(3, .int 0), (0, .ref u0), (1, .ref u1), (2, .ref u2)]) hx hb dX3_multiply_1 rfl hl (by decide) rfl (fun ls hl => ?_)
  exact L2 62 ls f s.heap [] 0 (by decide) (lv_cons hl 1 rfl (lv_cons hl 2 rfl (lv_cons hl 3 rfl (lv_cons hl 0 rfl (lv_nil hl))))) h t o ⟨by decide, by decide⟩
abbrev rm_s_X3_loada : Room := { frames := 1, cells := 0, slots := 0, locals := 23 }
set_option maxRecDepth 100000 in
set_option maxHeartbeats 4000000 in
theorem s_X3_loada (l : Launch) (D : va_G) (G : Nat → Nat) (b0 : Nat) (τ : Nat → Nat) (f : hM) (t : TI G 9 τ f) (u0 : Nat) (hu0 : τ u0 = 45) (u1 : Nat) (hu1 : τ u1 = 3) (u2 : Int32) (hu2 : iv u2 0 4) (u3 : Int32) (hu3 : iv u3 0 0) : mV l yX3_load cX3_load 5 rm_s_X3_loada D G b0 f [.ref u0, .ref u1, .int u2, .int u3] (fun f1 => TI G 9 τ f1 ∧ Fr [45, 47, 45004] τ f f1 ∧ (∃ wz : Int32, atp f1 u0 (fd 3 (.int wz)) ∧ iv wz 0 0 ∧ wz.toInt = u3.toInt)) := by
  refine met2 (own := RX3) (by decide) rfl (Nat.le_of_ble_eq_true rfl) ?_
  intro p e s m args below meth c ls Q hQ C hr hini hl h
  have hl : lv_has ls 5 [(0, .ref u0), (1, .ref u1), (2, .int u2), (3, .int u3)] := hl
  obtain ⟨hx, hb, hml, hown, hts, hE0, hlk⟩ := id C
  have o := Fr.rf [45, 47, 45004] τ f
  have L27 : ∀ (n27 : Nat) (ls : Array Slot) (f_27 : hM) (H : Heap) (locs : List Loc) (v27_4 : Int32) (g27_u0_3 : Int32), 61 - v27_4.toInt < (n27 : Int) → lv_has ls 5 [(0, .ref u0), (1, .ref u1), (2, .int u2), (4, .int v27_4)] → hw D b0 s.heap f_27 H locs → TI G 9 τ f_27 → Fr [45, 47, 45004] τ f f_27 → iv v27_4 0 61 → iv g27_u0_3 0 0 → atp f_27 u0 (fd 3 (.int g27_u0_3)) → W p l e rm_s_X3_loada s m args below meth c H locs 0 0 Q (F0 m 27 ls []) := by
    intro n27
    induction n27 with
    | zero => intro ls f_27 H locs v27_4 g27_u0_3 hm27 hl h t_27 o_27 iv27_4 ig27_u0_3 k27_u0_3; exact absurd hm27 (by omega)
    | succ n27 ih27 =>
      intro ls f_27 H locs v27_4 g27_u0_3 hm27 hl h t_27 o_27 iv27_4 ig27_u0_3 k27_u0_3
      have L70 : ∀ (ls : Array Slot) (f_70 : hM) (H : Heap) (locs : List Loc), lv_has ls 5 [(0, .ref u0)] → hw D b0 s.heap f_70 H locs → TI G 9 τ f_70 → Fr [45, 47, 45004] τ f f_70 → atp f_70 u0 (fd 3 (.int g27_u0_3)) → W p l e rm_s_X3_loada s m args below meth c H locs 0 0 Q (F0 m 70 ls []) := by
        intro ls f_70 H locs hl h t_70 o_70 k70_u0_3
        refine lv_aload_n hx hb dX3_load_70 rfl (lv_at hl 0 rfl) ?_
        refine t_getfd C h t_70 hu0 (by decide) wf_45 (v := .int g27_u0_3) k70_u0_3 fl_X3_30 dX3_load_71 ?_
        refine lv_iconst (v := 1) hx hb dX3_load_74 (by decide) ?_
        refine lv_icmp_ne (tgt := 120) hx hb dX3_load_75 (by decide) (fun c1 => ?_) (fun c1 => ?_)
        · have c2 : g27_u0_3.toInt ≠ 1 := fun z_ => c1 (Int32.toInt_inj.mp z_)
          exact u_vret C h hr hQ (⟨t_70, o_70, ⟨g27_u0_3, k70_u0_3, ig27_u0_3, (by omega)⟩⟩) (Nat.le_of_ble_eq_true rfl) (Nat.le_of_ble_eq_true rfl) dX3_load_120
        · have c3 : g27_u0_3.toInt = 1 := congrArg Int32.toInt c1
          exact (iv_cq_ c3 ig27_u0_3 (iv_k (x := 1) (k := 1) rfl) (by decide)).elim
      refine lv_iload hx hb dX3_load_27 (lv_at hl 3 rfl) ?_
      refine lv_bipush (v := 61) hx hb dX3_load_29 (by decide) ?_
      refine lv_icmp_ge (tgt := 70) hx hb dX3_load_31 (by decide) (fun c4 => ?_) (fun c4 => ?_)
      · have c5 : 61 ≤ v27_4.toInt := Int32.le_iff_toInt_le.mp c4
        have i6 : iv v27_4 61 61 := iv_Er c5 (iv_k (x := 61) (k := 61) rfl) iv27_4 (by decide)
        exact L70 ls f_27 H locs (lv_cons hl 0 rfl (lv_nil hl)) h t_27 o_27 k27_u0_3
      · have c7 : v27_4.toInt < 61 := Int32.lt_iff_toInt_lt.mp (iv_nle c4)
        have i8 : iv v27_4 0 60 := iv_Ll c7 iv27_4 (iv_k (x := 61) (k := 61) rfl) (by decide)
        refine lv_iload_n hx hb dX3_load_34 rfl (lv_at hl 2 rfl) ?_
        refine lv_bipush (v := 61) hx hb dX3_load_35 (by decide) ?_
        refine i_mulc hx hb dX3_load_37 hu2 (k := 61) rfl (lo := 0) (hi := 244) (by decide) (fun z9 ez9 mz9 iz9 => ?_)
        refine lv_iload hx hb dX3_load_38 (lv_at hl 3 rfl) ?_
        refine i_add hx hb dX3_load_40 iz9 i8 (lo := 0) (hi := 304) (by decide) (fun z10 ez10 mz10 iz10 => ?_)
        refine lv_aload_n hx hb dX3_load_41 rfl (lv_at hl 1 rfl) ?_
        refine t_alen C h t_27 hu1 (by decide) (n := 305) (v := 305) (fun e_ h_ => Or.inl ⟨_, _, wf_3 e_ h_⟩) rfl dX3_load_42 ?_
        refine lv_icmp_ge (tgt := 70) hx hb dX3_load_43 (by decide) (fun c11 => ?_) (fun c11 => ?_)
        · have c12 : 305 ≤ z10.toInt := Int32.le_iff_toInt_le.mp c11
          exact (iv_ce_ c12 (iv_k (x := 305) (k := 305) rfl) iz10 (by decide)).elim
        · have c13 : z10.toInt < 305 := Int32.lt_iff_toInt_lt.mp (iv_nle c11)
          refine lv_aload_n hx hb dX3_load_46 rfl (lv_at hl 0 rfl) ?_
          refine t_getr (tq := 46) C h t_27 hu0 (by decide) wf_45 rfl fl_X3_17 dX3_load_47 (fun q14 tq14 => ?_)
          refine lv_iconst (v := 1) hx hb dX3_load_50 (by decide) ?_
          refine t_aaldA C h t_27 (g := 5) rfl tq14 (by decide) wf_46 (by unfold vp_in; decide) dX3_load_51 (fun q15 tq15 => ?_)
          refine lv_iload hx hb dX3_load_52 (lv_at hl 3 rfl) ?_
          refine lv_aload_n hx hb dX3_load_54 rfl (lv_at hl 1 rfl) ?_
          refine lv_iload_n hx hb dX3_load_55 rfl (lv_at hl 2 rfl) ?_
          refine lv_bipush (v := 61) hx hb dX3_load_56 (by decide) ?_
          refine i_mulc hx hb dX3_load_58 hu2 (k := 61) rfl (lo := 0) (hi := 244) (by decide) (fun z16 ez16 mz16 iz16 => ?_)
          refine lv_iload hx hb dX3_load_59 (lv_at hl 3 rfl) ?_
          refine i_add hx hb dX3_load_61 iz16 i8 (lo := 0) (hi := 304) (by decide) (fun z17 ez17 mz17 iz17 => ?_)
          refine t_iald C h t_27 hu1 (by decide) wf_3 (iv_in iz17 (by decide)) dX3_load_62 (fun z18 iz18 => ?_)
          refine t_iast C h t_27 o_27 tq15 (by decide) (by decide) wf_47 fw_47 (iv_in i8 (by decide)) iz18 dX3_load_63 (fun f19 H locs h tf19 of19 hq => ?_)
          have k20 := atp.tg k27_u0_3 hq hu0 (by decide)
          refine i_inc hx hb dX3_load_64 hl (k := 3) rfl i8 rfl (lo := 1) (hi := 61) (by decide) (by decide) (lv' := fun v => [(4, .int v), (0, .ref u0), (1, .ref u1), (2, .int u2)]) (fun _ => rfl) (fun z21 ls ez21 mz21 iz21 hl => ?_)
          refine lv_goto (tgt := 27) hx hb dX3_load_67 (by decide) ?_
          exact ih27 ls f19 H locs z21 g27_u0_3 (show 61 - z21.toInt < _ by omega) (lv_cons hl 1 rfl (lv_cons hl 2 rfl (lv_cons hl 3 rfl (lv_cons hl 0 rfl (lv_nil hl))))) h tf19 of19 (iv_w iz21 (by decide)) ig27_u0_3 k20
  refine lv_aload_n hx hb dX3_load_0 rfl (lv_at hl 0 rfl) ?_
  refine lv_iload_n hx hb dX3_load_1 rfl (lv_at hl 3 rfl) ?_
  refine t_put C h t o hu0 (by decide) (by decide) (by decide) wf_45 fw_45 (k := 3) rfl flw_X3_30 (Or.inr ⟨_, _, _, rfl, rfl⟩) (v := .int u3) rfl rfl ⟨_, rfl, (iv_w hu3 (by decide))⟩ dX3_load_2 (fun f22 H locs h tf22 of22 hq ha_ hn_ hk_ => ?_)
  have k23 := ha_
  refine lv_aload_n hx hb dX3_load_5 rfl (lv_at hl 0 rfl) ?_
  refine t_getr (tq := 46) C h tf22 hu0 (by decide) wf_45 rfl fl_X3_17 dX3_load_6 (fun q24 tq24 => ?_)
  refine lv_iconst (v := 0) hx hb dX3_load_9 (by decide) ?_
  refine t_aaldA C h tf22 (g := 5) rfl tq24 (by decide) wf_46 (by unfold vp_in; decide) dX3_load_10 (fun q25 tq25 => ?_)
  refine lv_iconst (v := 0) hx hb dX3_load_11 (by decide) ?_
  refine k_v (r_S C h hl (As := [.ref q25, .int 0]) (rest := []) (s_J7_fill_53178t47 l D G b0 τ f22 tf22 q25 tq25 0 (iv_w (iv_k (x := 0) (k := 0) rfl) (by decide))) mk_J7_fill_53178 w_1038 w_437 w_438 ⟨Nat.le_of_ble_eq_true rfl, Nat.le_of_ble_eq_true rfl⟩ rfl (Nat.le_of_ble_eq_true rfl) ⟨Nat.le_of_ble_eq_true rfl, Nat.le_of_ble_eq_true rfl⟩ rfl dX3_load_12) h (fun f27 H locs p28 h => ?_)
  obtain ⟨tf27, ogf27⟩ := p28
  have of27 : Fr [45, 47, 45004] τ f f27 := Fr.tr of22 ogf27 (by decide) (by decide)
  have k29 := atp.fr k23 ogf27 hu0 (by decide)
  refine lv_aload_n hx hb dX3_load_15 rfl (lv_at hl 0 rfl) ?_
  refine t_getr (tq := 46) C h tf27 hu0 (by decide) wf_45 rfl fl_X3_17 dX3_load_16 (fun q30 tq30 => ?_)
  refine lv_iconst (v := 0) hx hb dX3_load_19 (by decide) ?_
  refine t_aaldA C h tf27 (g := 5) rfl tq30 (by decide) wf_46 (by unfold vp_in; decide) dX3_load_20 (fun q31 tq31 => ?_)
  refine lv_iconst (v := 0) hx hb dX3_load_21 (by decide) ?_
  refine lv_iconst (v := 1) hx hb dX3_load_22 (by decide) ?_
  refine t_iast C h tf27 of27 tq31 (by decide) (by decide) wf_47 fw_47 (by unfold vp_in; decide) ⟨by decide, by decide⟩ dX3_load_23 (fun f32 H locs h tf32 of32 hq => ?_)
  have k33 := atp.tg k29 hq hu0 (by decide)
  refine lv_iconst (v := 0) hx hb dX3_load_24 (by decide) ?_
  refine lv_istore (lv' := [(4, .int 0), (0, .ref u0), (1, .ref u1), (2, .int u2), (3, .int u3)]) hx hb dX3_load_25 hl (by decide) rfl (fun ls hl => ?_)
  exact L27 62 ls f32 H locs 0 u3 (by decide) (lv_cons hl 1 rfl (lv_cons hl 2 rfl (lv_cons hl 3 rfl (lv_cons hl 0 rfl (lv_nil hl))))) h tf32 of32 ⟨by decide, by decide⟩ hu3 k33
abbrev rm_s_X3_factora : Room := { frames := 0, cells := 0, slots := 0, locals := 0 }
set_option maxRecDepth 100000 in
set_option maxHeartbeats 4000000 in
theorem s_X3_factora (l : Launch) (D : va_G) (G : Nat → Nat) (b0 : Nat) (τ : Nat → Nat) (f : hM) (t : TI G 9 τ f) (u0 : Nat) (hu0 : τ u0 = 45) (u1 : Int32) (hu1 : iv u1 0 4) (u2 : Int32) (hu2 : iv u2 0 4) (u3 : Int32) (hu3 : iv u3 0 60) (wh : Int32) (hwh : iv wh 0 0) (k_u0_3 : atp f u0 (fd 3 (.int wh))) (hr0 : u3.toInt + u1.toInt ≤ 60) : mI l yX3_factor cX3_factor 7 (.int) rm_s_X3_factora D G b0 f [.ref u0, .int u1, .int u2, .int u3] (fun r f1 => iv r (-2147483648) 2147483647 ∧ TI G 9 τ f1 ∧ Fr [] τ f f1) := by
  refine met2 (own := RX3) (by decide) rfl (Nat.le_of_ble_eq_true rfl) ?_
  intro p e s m args below meth c ls Q hQ C hr hini hl h
  have hl : lv_has ls 7 [(0, .ref u0), (1, .int u1), (2, .int u2), (3, .int u3)] := hl
  obtain ⟨hx, hb, hml, hown, hts, hE0, hlk⟩ := id C
  have o := Fr.rf [] τ f
  have L44 : ∀ (n44 : Nat) (ls : Array Slot) (f_44 : hM) (H : Heap) (locs : List Loc) (v44_4 : Int64) (v44_6 : Int32), 4 - v44_6.toInt < (n44 : Int) → lv_has ls 7 [(2, .int u2), (3, .int u3), (4, .long v44_4), (6, .int v44_6)] → hw D b0 s.heap f_44 H locs → TI G 9 τ f_44 → Fr [] τ f f_44 → ivl v44_4 (-2147483648) 2147483647 → iv v44_6 0 4 → atp f_44 u0 (fd 3 (.int wh)) → W p l e rm_s_X3_factora s m args below meth c H locs 0 0 Q (F0 m 44 ls []) := by
    intro n44
    induction n44 with
    | zero => intro ls f_44 H locs v44_4 v44_6 hm44 hl h t_44 o_44 iv44_4 iv44_6 k44_u0_3; exact absurd hm44 (by omega)
    | succ n44 ih44 =>
      intro ls f_44 H locs v44_4 v44_6 hm44 hl h t_44 o_44 iv44_4 iv44_6 k44_u0_3
      refine lv_iload hx hb dX3_factor_44 (lv_at hl 3 rfl) ?_
      refine lv_iload_n hx hb dX3_factor_46 rfl (lv_at hl 0 rfl) ?_
      refine lv_icmp_ge (tgt := 67) hx hb dX3_factor_47 (by decide) (fun c1 => ?_) (fun c1 => ?_)
      · have c2 : u2.toInt ≤ v44_6.toInt := Int32.le_iff_toInt_le.mp c1
        refine lv_lload hx hb dX3_factor_67 (lv_at hl 2 rfl) ?_
        refine lv_l2i hx hb dX3_factor_69 rfl (i_top (iv_l2i iv44_4 (by decide)) (fun z6 ez6 iz6 => ?_))
        exact u_iret C h hr hQ (⟨iz6, t_44, o_44⟩) (Nat.le_of_ble_eq_true rfl) (Nat.le_of_ble_eq_true rfl) dX3_factor_70
      · have c3 : v44_6.toInt < u2.toInt := Int32.lt_iff_toInt_lt.mp (iv_nle c1)
        have i4 : iv v44_6 0 3 := iv_Ll c3 iv44_6 hu2 (by decide)
        have i5 : iv u2 1 4 := iv_Lr c3 iv44_6 hu2 (by decide)
        refine lv_lload hx hb dX3_factor_50 (lv_at hl 2 rfl) ?_
        refine lv_iload_n hx hb dX3_factor_52 rfl (lv_at hl 1 rfl) ?_
        refine lv_i2l hx hb dX3_factor_53 rfl (i_topL hu3 (fun w7 ew7 mw7 iw7 => ?_))
        refine lv_lmul hx hb dX3_factor_54 (lv_topl (fun w8 ew8 => ?_))
        refine lv_ldc2 (v := 1000003) hx hb hown (hts _ w_1057) dX3_factor_55 ?_
        refine lv_lrem hx hb dX3_factor_58 (by decide) (i_topl (lrem_iv (k := 1000003) rfl (by decide) (lo := -1000002) (hi := 1000002) (by decide)) (fun w9 ew9 iw9 => ?_))
        refine lv_lstore (lv' := [(4, .long w9), (2, .int u2), (3, .int u3), (6, .int v44_6)]) hx hb dX3_factor_59 hl (by decide) rfl (fun ls hl => ?_)
        refine i_inc hx hb dX3_factor_61 hl (k := 3) rfl i4 rfl (lo := 1) (hi := 4) (by decide) (by decide) (lv' := fun v => [(6, .int v), (4, .long w9), (2, .int u2), (3, .int u3)]) (fun _ => rfl) (fun z10 ls ez10 mz10 iz10 hl => ?_)
        refine lv_goto (tgt := 44) hx hb dX3_factor_64 (by decide) ?_
        exact ih44 ls f_44 H locs w9 z10 (show 4 - z10.toInt < _ by omega) (lv_cons hl 2 rfl (lv_cons hl 3 rfl (lv_cons hl 1 rfl (lv_cons hl 0 rfl (lv_nil hl))))) h t_44 o_44 (ivl_w iw9 (by decide)) (iv_w iz10 (by decide)) k44_u0_3
  refine lv_aload_n hx hb dX3_factor_0 rfl (lv_at hl 0 rfl) ?_
  refine t_getfd C h t hu0 (by decide) wf_45 (v := .int wh) k_u0_3 fl_X3_30 dX3_factor_1 ?_
  refine lv_iconst (v := 1) hx hb dX3_factor_4 (by decide) ?_
  refine lv_icmp_ne (tgt := 28) hx hb dX3_factor_5 (by decide) (fun c11 => ?_) (fun c11 => ?_)
  · have c12 : wh.toInt ≠ 1 := fun z_ => c11 (Int32.toInt_inj.mp z_)
    refine lv_aload_n hx hb dX3_factor_28 rfl (lv_at hl 0 rfl) ?_
    refine t_getr (tq := 46) C h t hu0 (by decide) wf_45 rfl fl_X3_17 dX3_factor_29 (fun q14 tq14 => ?_)
    refine lv_iconst (v := 1) hx hb dX3_factor_32 (by decide) ?_
    refine t_aaldA C h t (g := 5) rfl tq14 (by decide) wf_46 (by unfold vp_in; decide) dX3_factor_33 (fun q15 tq15 => ?_)
    refine lv_iload_n hx hb dX3_factor_34 rfl (lv_at hl 3 rfl) ?_
    refine lv_iload_n hx hb dX3_factor_35 rfl (lv_at hl 1 rfl) ?_
    refine i_add hx hb dX3_factor_36 hu3 hu1 (lo := 0) (hi := 64) (by decide) (fun z16 ez16 mz16 iz16 => ?_)
    refine t_iald C h t tq15 (by decide) wf_47 (ix_o (by omega)) dX3_factor_37 (fun z17 iz17 => ?_)
    refine lv_i2l hx hb dX3_factor_38 rfl (i_topL iz17 (fun w18 ew18 mw18 iw18 => ?_))
    refine lv_lstore (lv' := [(4, .long w18), (0, .ref u0), (1, .int u1), (2, .int u2), (3, .int u3)]) hx hb dX3_factor_39 hl (by decide) rfl (fun ls hl => ?_)
    refine lv_iconst (v := 0) hx hb dX3_factor_41 (by decide) ?_
    refine lv_istore (lv' := [(6, .int 0), (4, .long w18), (0, .ref u0), (1, .int u1), (2, .int u2), (3, .int u3)]) hx hb dX3_factor_42 hl (by decide) rfl (fun ls hl => ?_)
    exact L44 5 ls f s.heap [] w18 0 (by decide) (lv_cons hl 4 rfl (lv_cons hl 5 rfl (lv_cons hl 1 rfl (lv_cons hl 0 rfl (lv_nil hl))))) h t o (ivl_w iw18 (by decide)) ⟨by decide, by decide⟩ k_u0_3
  · have c13 : wh.toInt = 1 := congrArg Int32.toInt c11
    exact (iv_cq_ c13 hwh (iv_k (x := 1) (k := 1) rfl) (by decide)).elim
abbrev rm_s_X3_solvea : Room := { frames := 3, cells := 0, slots := 0, locals := 74 }
set_option maxRecDepth 100000 in
set_option maxHeartbeats 4000000 in
theorem s_X3_solvea (l : Launch) (D : va_G) (G : Nat → Nat) (b0 : Nat) (τ : Nat → Nat) (f : hM) (t : TI G 9 τ f) (u0 : Nat) (hu0 : τ u0 = 45) (u1 : Int32) (hu1 : iv u1 1 4) (u2 : Int32) (hu2 : iv u2 0 4) (wh : Int32) (hwh : iv wh 0 0) (k_u0_3 : atp f u0 (fd 3 (.int wh))) : mI l yX3_solve cX3_solve 6 (.boolean) rm_s_X3_solvea D G b0 f [.ref u0, .int u1, .int u2] (fun r f1 => iv r 0 1 ∧ TI G 9 τ f1 ∧ Fr [40, 41, 42, 48, 40002, 40003, 40004] τ f f1) := by
  refine met2 (own := RX3) (by decide) rfl (Nat.le_of_ble_eq_true rfl) ?_
  intro p e s m args below meth c ls Q hQ C hr hini hl h
  have hl : lv_has ls 6 [(0, .ref u0), (1, .int u1), (2, .int u2)] := hl
  obtain ⟨hx, hb, hml, hown, hts, hE0, hlk⟩ := id C
  have o := Fr.rf [40, 41, 42, 48, 40002, 40003, 40004] τ f
  have L22 : ∀ (n22 : Nat) (ls : Array Slot) (f_22 : hM) (H : Heap) (locs : List Loc) (v22_3 : Int32) (v22_4 : Int32), 29 - v22_4.toInt < (n22 : Int) → lv_has ls 6 [(0, .ref u0), (2, .int u2), (3, .int v22_3), (4, .int v22_4)] → hw D b0 s.heap f_22 H locs → TI G 9 τ f_22 → Fr [40, 41, 42, 48, 40002, 40003, 40004] τ f f_22 → iv v22_3 2 25 → iv v22_4 0 29 → atp f_22 u0 (fd 3 (.int wh)) → v22_3.toInt = (u1.toInt + 1) * (u2.toInt + 1) → W p l e rm_s_X3_solvea s m args below meth c H locs 0 0 Q (F0 m 22 ls []) := by
    intro n22
    induction n22 with
    | zero => intro ls f_22 H locs v22_3 v22_4 hm22 hl h t_22 o_22 iv22_3 iv22_4 k22_u0_3 hv22_0; exact absurd hm22 (by omega)
    | succ n22 ih22 =>
      intro ls f_22 H locs v22_3 v22_4 hm22 hl h t_22 o_22 iv22_3 iv22_4 k22_u0_3 hv22_0
      have L33 : ∀ (n33 : Nat) (ls : Array Slot) (f_33 : hM) (H : Heap) (locs : List Loc) (v33_5 : Int32), 25 - v33_5.toInt < (n33 : Int) → lv_has ls 6 [(0, .ref u0), (2, .int u2), (3, .int v22_3), (4, .int v22_4), (5, .int v33_5)] → hw D b0 s.heap f_33 H locs → TI G 9 τ f_33 → Fr [40, 41, 42, 48, 40002, 40003, 40004] τ f f_33 → iv v22_4 0 28 → iv v33_5 0 25 → atp f_33 u0 (fd 3 (.int wh)) → v22_3.toInt = (u1.toInt + 1) * (u2.toInt + 1) → W p l e rm_s_X3_solvea s m args below meth c H locs 0 0 Q (F0 m 33 ls []) := by
        intro n33
        induction n33 with
        | zero => intro ls f_33 H locs v33_5 hm33 hl h t_33 o_33 jv33_4 iv33_5 k33_u0_3 hv33_0; exact absurd hm33 (by omega)
        | succ n33 ih33 =>
          intro ls f_33 H locs v33_5 hm33 hl h t_33 o_33 jv33_4 iv33_5 k33_u0_3 hv33_0
          refine lv_iload hx hb dX3_solve_33 (lv_at hl 4 rfl) ?_
          refine lv_iload_n hx hb dX3_solve_35 rfl (lv_at hl 2 rfl) ?_
          refine lv_icmp_ge (tgt := 75) hx hb dX3_solve_36 (by decide) (fun c1 => ?_) (fun c1 => ?_)
          · have c2 : v22_3.toInt ≤ v33_5.toInt := Int32.le_iff_toInt_le.mp c1
            have i3 : iv v33_5 2 25 := iv_Er c2 iv22_3 iv33_5 (by decide)
            refine i_inc hx hb dX3_solve_75 hl (k := 3) rfl jv33_4 rfl (lo := 1) (hi := 29) (by decide) (by decide) (lv' := fun v => [(4, .int v), (0, .ref u0), (2, .int u2), (3, .int v22_3), (5, .int v33_5)]) (fun _ => rfl) (fun z6 ls ez6 mz6 iz6 hl => ?_)
            refine lv_goto (tgt := 22) hx hb dX3_solve_78 (by decide) ?_
            exact ih22 ls f_33 H locs v22_3 z6 (show 29 - z6.toInt < _ by omega) (lv_cons hl 1 rfl (lv_cons hl 2 rfl (lv_cons hl 3 rfl (lv_cons hl 0 rfl (lv_nil hl))))) h t_33 o_33 iv22_3 (iv_w iz6 (by decide)) k33_u0_3 (show v22_3.toInt = (u1.toInt + 1) * (u2.toInt + 1) by omega)
          · have c4 : v33_5.toInt < v22_3.toInt := Int32.lt_iff_toInt_lt.mp (iv_nle c1)
            have i5 : iv v33_5 0 24 := iv_Ll c4 iv33_5 iv22_3 (by decide)
            refine lv_aload_n hx hb dX3_solve_39 rfl (lv_at hl 0 rfl) ?_
            refine t_getr (tq := 40) C h t_33 hu0 (by decide) wf_45 rfl fl_X3_9 dX3_solve_40 (fun q7 tq7 => ?_)
            refine lv_iload hx hb dX3_solve_43 (lv_at hl 3 rfl) ?_
            refine lv_iload hx hb dX3_solve_45 (lv_at hl 4 rfl) ?_
            refine lv_aload_n hx hb dX3_solve_47 rfl (lv_at hl 0 rfl) ?_
            refine lv_iload hx hb dX3_solve_48 (lv_at hl 4 rfl) ?_
            refine lv_iload_n hx hb dX3_solve_50 rfl (lv_at hl 1 rfl) ?_
            refine lv_iconst (v := 1) hx hb dX3_solve_51 (by decide) ?_
            refine i_addk hx hb dX3_solve_52 hu2 (k := 1) rfl (lo := 1) (hi := 5) (by decide) (fun z8 ez8 mz8 iz8 => ?_)
            refine lv_idiv hx hb dX3_solve_53 (iv_nz iz8 (by decide)) (i_top (iv_divp (iv_w i5 (by decide) : iv _ 0 24) iz8 (by decide)) (fun z9 ez9 iz9 => ?_))
            have q10 : z9.toInt < u1.toInt + 1 := by rw [ez9]; exact div_lt (by omega) mz8 (by omega) hv33_0 (by omega)
            have i11 : iv z9 0 4 := ⟨by omega, by omega⟩
            refine lv_iload hx hb dX3_solve_54 (lv_at hl 4 rfl) ?_
            refine lv_iload_n hx hb dX3_solve_56 rfl (lv_at hl 1 rfl) ?_
            refine lv_iconst (v := 1) hx hb dX3_solve_57 (by decide) ?_
            refine i_addk hx hb dX3_solve_58 hu2 (k := 1) rfl (lo := 1) (hi := 5) (by decide) (fun z12 ez12 mz12 iz12 => ?_)
            refine lv_irem hx hb dX3_solve_59 (iv_nz iz12 (by decide)) (i_topm (P := fun q_ => q_ < Int32.toInt z12 ∧ q_ ≤ Int32.toInt v33_5) (iv_remm (iv_w i5 (by decide) : iv _ 0 24) iz12 (by decide)) (fun z13 ez13 mz13 iz13 => ?_))
            refine lv_iload hx hb dX3_solve_60 (lv_at hl 3 rfl) ?_
            obtain ⟨_, r14⟩ := t_rec t_33 hu0 (by decide) wf_45
            refine k_i (r_V C h hl (As := [.int z9, .int z13, .int v22_4]) (rest := [.int v33_5, .int v22_4, .ref q7]) (s_X3_factora l D G b0 τ f_33 t_33 u0 hu0 z9 i11 z13 iz13 v22_4 (iv_w jv33_4 (by decide)) wh hwh k33_u0_3 (by omega)) r14 (Cn := RX3) (T := TX3) (N := 4) rfl rfl mk_X3_factor w_1053 w_1055 w_29 w_1056 ⟨Nat.le_of_ble_eq_true rfl, Nat.le_of_ble_eq_true rfl⟩ rfl (Nat.le_of_ble_eq_true rfl) ⟨Nat.le_of_ble_eq_true rfl, Nat.le_of_ble_eq_true rfl⟩ rfl dX3_solve_62) h (fun r15 f16 H locs p17 h => ?_)
            obtain ⟨ir15, tf16, ogf16⟩ := p17
            have egf16 := Fr.nil2 ogf16
            subst egf16
            refine lv_i2l hx hb dX3_solve_65 rfl (i_topL ir15 (fun w18 ew18 mw18 iw18 => ?_))
            obtain ⟨_, r19⟩ := t_rec t_33 tq7 (by decide) wf_40
            refine k_v (r_V C h hl (As := [.int v22_4, .int v33_5, .long w18]) (rest := []) (s_X4_put l D G b0 τ f_33 t_33 q7 tq7 v22_4 (iv_w jv33_4 (by decide)) v33_5 (iv_w i5 (by decide)) w18) r19 (Cn := RX4) (T := TX4) (N := 4) rfl rfl mk_X4_put w_1058 w_793 w_794 w_795 ⟨Nat.le_of_ble_eq_true rfl, Nat.le_of_ble_eq_true rfl⟩ rfl (Nat.le_of_ble_eq_true rfl) ⟨Nat.le_of_ble_eq_true rfl, Nat.le_of_ble_eq_true rfl⟩ rfl dX3_solve_66) h (fun f21 H locs p22 h => ?_)
            obtain ⟨tf21, ogf21⟩ := p22
            have of21 : Fr [40, 41, 42, 48, 40002, 40003, 40004] τ f f21 := Fr.tr o_33 ogf21 (by decide) (by decide)
            have k23 := atp.fr k33_u0_3 ogf21 hu0 (by decide)
            refine i_inc hx hb dX3_solve_69 hl (k := 4) rfl i5 rfl (lo := 1) (hi := 25) (by decide) (by decide) (lv' := fun v => [(5, .int v), (0, .ref u0), (2, .int u2), (3, .int v22_3), (4, .int v22_4)]) (fun _ => rfl) (fun z24 ls ez24 mz24 iz24 hl => ?_)
            refine lv_goto (tgt := 33) hx hb dX3_solve_72 (by decide) ?_
            exact ih33 ls f21 H locs z24 (show 25 - z24.toInt < _ by omega) (lv_cons hl 1 rfl (lv_cons hl 2 rfl (lv_cons hl 3 rfl (lv_cons hl 4 rfl (lv_cons hl 0 rfl (lv_nil hl)))))) h tf21 of21 jv33_4 (iv_w iz24 (by decide)) k23 (show v22_3.toInt = (u1.toInt + 1) * (u2.toInt + 1) by omega)
      have L109 : ∀ (n109 : Nat) (ls : Array Slot) (f_109 : hM) (H : Heap) (locs : List Loc) (v109_4 : Int32) (v109_5 : Int32), 27 - v109_5.toInt < (n109 : Int) → lv_has ls 6 [(0, .ref u0), (4, .int v109_4), (5, .int v109_5)] → hw D b0 s.heap f_109 H locs → TI G 9 τ f_109 → Fr [40, 41, 42, 48, 40002, 40003, 40004] τ f f_109 → iv v109_4 0 27 → iv v109_5 0 27 → atp f_109 u0 (fd 3 (.int wh)) → W p l e rm_s_X3_solvea s m args below meth c H locs 0 0 Q (F0 m 109 ls []) := by
        intro n109
        induction n109 with
        | zero => intro ls f_109 H locs v109_4 v109_5 hm109 hl h t_109 o_109 iv109_4 iv109_5 k109_u0_3; exact absurd hm109 (by omega)
        | succ n109 ih109 =>
          intro ls f_109 H locs v109_4 v109_5 hm109 hl h t_109 o_109 iv109_4 iv109_5 k109_u0_3
          refine lv_iload hx hb dX3_solve_109 (lv_at hl 2 rfl) ?_
          refine lv_iload hx hb dX3_solve_111 (lv_at hl 1 rfl) ?_
          refine lv_icmp_ge (tgt := 145) hx hb dX3_solve_113 (by decide) (fun c25 => ?_) (fun c25 => ?_)
          · have c26 : v109_4.toInt ≤ v109_5.toInt := Int32.le_iff_toInt_le.mp c25
            refine lv_aload_n hx hb dX3_solve_145 rfl (lv_at hl 0 rfl) ?_
            refine t_getr (tq := 48) C h t_109 hu0 (by decide) wf_45 rfl fl_X3_22 dX3_solve_146 (fun q30 tq30 => ?_)
            refine lv_iload hx hb dX3_solve_149 (lv_at hl 1 rfl) ?_
            refine lv_iconst (v := 1) hx hb dX3_solve_151 (by decide) ?_
            refine t_iast C h t_109 o_109 tq30 (by decide) (by decide) wf_48 fw_48 (iv_in iv109_4 (by decide)) ⟨by decide, by decide⟩ dX3_solve_152 (fun f31 H locs h tf31 of31 hq => ?_)
            have k32 := atp.tg k109_u0_3 hq hu0 (by decide)
            refine lv_iconst (v := 1) hx hb dX3_solve_153 (by decide) ?_
            exact u_zret C h hr hQ ⟨by decide, by decide⟩ (⟨⟨by decide, by decide⟩, tf31, of31⟩) (Nat.le_of_ble_eq_true rfl) (Nat.le_of_ble_eq_true rfl) dX3_solve_154
          · have c27 : v109_5.toInt < v109_4.toInt := Int32.lt_iff_toInt_lt.mp (iv_nle c25)
            have i28 : iv v109_5 0 26 := iv_Ll c27 iv109_5 iv109_4 (by decide)
            have i29 : iv v109_4 1 27 := iv_Lr c27 iv109_5 iv109_4 (by decide)
            refine lv_aload_n hx hb dX3_solve_116 rfl (lv_at hl 0 rfl) ?_
            refine t_getr (tq := 48) C h t_109 hu0 (by decide) wf_45 rfl fl_X3_22 dX3_solve_117 (fun q33 tq33 => ?_)
            refine lv_iload hx hb dX3_solve_120 (lv_at hl 2 rfl) ?_
            refine lv_aload_n hx hb dX3_solve_122 rfl (lv_at hl 0 rfl) ?_
            refine t_getr (tq := 40) C h t_109 hu0 (by decide) wf_45 rfl fl_X3_9 dX3_solve_123 (fun q34 tq34 => ?_)
            refine lv_iload hx hb dX3_solve_126 (lv_at hl 2 rfl) ?_
            refine lv_iload hx hb dX3_solve_128 (lv_at hl 1 rfl) ?_
            obtain ⟨_, r35⟩ := t_rec t_109 tq34 (by decide) wf_40
            refine k_i (r_V C h hl (As := [.int v109_5, .int v109_4]) (rest := [.int v109_5, .ref q33]) (s_X4_share l D G b0 τ f_109 t_109 q34 tq34 v109_5 (iv_w i28 (by decide)) v109_4 (iv_w i29 (by decide))) r35 (Cn := RX4) (T := TX4) (N := 4) rfl rfl mk_X4_share w_1063 w_1064 w_1065 w_1066 ⟨Nat.le_of_ble_eq_true rfl, Nat.le_of_ble_eq_true rfl⟩ rfl (Nat.le_of_ble_eq_true rfl) ⟨Nat.le_of_ble_eq_true rfl, Nat.le_of_ble_eq_true rfl⟩ rfl dX3_solve_130) h (fun r36 f37 H locs p38 h => ?_)
            obtain ⟨ir36, tf37, ogf37⟩ := p38
            have egf37 := Fr.nil2 ogf37
            subst egf37
            refine lv_ineg hx hb dX3_solve_133 (i_top (iv_any _) (fun z39 ez39 iz39 => ?_))
            refine lv_i2l hx hb dX3_solve_134 rfl (i_topL iz39 (fun w40 ew40 mw40 iw40 => ?_))
            refine k_i (r_SN C h hl (host := "QuarterWalks") (As := [.long w40]) (rest := [.int v109_5, .ref q33]) (s_X10_residue l D G b0 τ f_109 t_109 w40) mk_X10_residue (by decide) w_741 w_742 ⟨Nat.le_of_ble_eq_true rfl, Nat.le_of_ble_eq_true rfl⟩ rfl (Nat.le_of_ble_eq_true rfl) ⟨Nat.le_of_ble_eq_true rfl, Nat.le_of_ble_eq_true rfl⟩ rfl dX3_solve_135) h (fun r41 f42 H locs p43 h => ?_)
            obtain ⟨ir41, tf42, ogf42⟩ := p43
            have egf42 := Fr.nil2 ogf42
            subst egf42
            refine t_iast C h t_109 o_109 tq33 (by decide) (by decide) wf_48 fw_48 (iv_in i28 (by decide)) ir41 dX3_solve_138 (fun f44 H locs h tf44 of44 hq => ?_)
            have k45 := atp.tg k109_u0_3 hq hu0 (by decide)
            refine i_inc hx hb dX3_solve_139 hl (k := 2) rfl i28 rfl (lo := 1) (hi := 27) (by decide) (by decide) (lv' := fun v => [(5, .int v), (0, .ref u0), (4, .int v109_4)]) (fun _ => rfl) (fun z46 ls ez46 mz46 iz46 hl => ?_)
            refine lv_goto (tgt := 109) hx hb dX3_solve_142 (by decide) ?_
            exact ih109 ls f44 H locs v109_4 z46 (show 27 - z46.toInt < _ by omega) (lv_cons hl 1 rfl (lv_cons hl 2 rfl (lv_cons hl 0 rfl (lv_nil hl)))) h tf44 of44 (iv_w i29 (by decide)) (iv_w iz46 (by decide)) k45
      refine lv_iload hx hb dX3_solve_22 (lv_at hl 3 rfl) ?_
      refine lv_iload_n hx hb dX3_solve_24 rfl (lv_at hl 2 rfl) ?_
      refine lv_iconst (v := 4) hx hb dX3_solve_25 (by decide) ?_
      refine i_addk hx hb dX3_solve_26 iv22_3 (k := 4) rfl (lo := 6) (hi := 29) (by decide) (fun z47 ez47 mz47 iz47 => ?_)
      refine lv_icmp_ge (tgt := 81) hx hb dX3_solve_27 (by decide) (fun c48 => ?_) (fun c48 => ?_)
      · have c49 : z47.toInt ≤ v22_4.toInt := Int32.le_iff_toInt_le.mp c48
        have i50 : iv v22_4 6 29 := iv_Er c49 iz47 iv22_4 (by decide)
        refine lv_aload_n hx hb dX3_solve_81 rfl (lv_at hl 0 rfl) ?_
        refine t_getr (tq := 40) C h t_22 hu0 (by decide) wf_45 rfl fl_X3_9 dX3_solve_82 (fun q53 tq53 => ?_)
        obtain ⟨_, r54⟩ := t_rec t_22 tq53 (by decide) wf_40
        refine k_i (r_V C h hl (As := []) (rest := []) (s_X4_firstMadeUp l D G b0 τ f_22 t_22 q53 tq53) r54 (Cn := RX4) (T := TX4) (N := 4) rfl rfl mk_X4_firstMadeUp w_1059 w_1060 w_1061 w_1062 ⟨Nat.le_of_ble_eq_true rfl, Nat.le_of_ble_eq_true rfl⟩ rfl (Nat.le_of_ble_eq_true rfl) ⟨Nat.le_of_ble_eq_true rfl, Nat.le_of_ble_eq_true rfl⟩ rfl dX3_solve_85) h (fun r55 f56 H locs p57 h => ?_)
        obtain ⟨ir55, tf56, ogf56⟩ := p57
        have of56 : Fr [40, 41, 42, 48, 40002, 40003, 40004] τ f f56 := Fr.tr o_22 ogf56 (by decide) (by decide)
        have k58 := atp.fr k22_u0_3 ogf56 hu0 (by decide)
        refine lv_istore (lv' := [(4, .int r55), (0, .ref u0), (2, .int u2), (3, .int v22_3)]) hx hb dX3_solve_88 hl (by decide) rfl (fun ls hl => ?_)
        refine lv_aload_n hx hb dX3_solve_90 rfl (lv_at hl 1 rfl) ?_
        refine t_getr (tq := 48) C h tf56 hu0 (by decide) wf_45 rfl fl_X3_22 dX3_solve_91 (fun q59 tq59 => ?_)
        refine lv_iconst (v := 0) hx hb dX3_solve_94 (by decide) ?_
        refine k_v (r_S C h hl (As := [.ref q59, .int 0]) (rest := []) (s_J7_fill_53178t48 l D G b0 τ f56 tf56 q59 tq59 0 (iv_w (iv_k (x := 0) (k := 0) rfl) (by decide))) mk_J7_fill_53178 w_1038 w_437 w_438 ⟨Nat.le_of_ble_eq_true rfl, Nat.le_of_ble_eq_true rfl⟩ rfl (Nat.le_of_ble_eq_true rfl) ⟨Nat.le_of_ble_eq_true rfl, Nat.le_of_ble_eq_true rfl⟩ rfl dX3_solve_95) h (fun f61 H locs p62 h => ?_)
        obtain ⟨tf61, ogf61⟩ := p62
        have of61 : Fr [40, 41, 42, 48, 40002, 40003, 40004] τ f f61 := Fr.tr of56 ogf61 (by decide) (by decide)
        have k63 := atp.fr k58 ogf61 hu0 (by decide)
        refine lv_iload hx hb dX3_solve_98 (lv_at hl 0 rfl) ?_
        refine lv_iconst (v := -1) hx hb dX3_solve_100 (by decide) ?_
        refine lv_icmp_ne (tgt := 106) hx hb dX3_solve_101 (by decide) (fun c64 => ?_) (fun c64 => ?_)
        · have c65 : r55.toInt ≠ (-1) := fun z_ => c64 (Int32.toInt_inj.mp z_)
          have i66 : iv r55 0 27 := iv_Nl c65 ir55 (by decide)
          refine lv_iconst (v := 0) hx hb dX3_solve_106 (by decide) ?_
          refine lv_istore (lv' := [(5, .int 0), (4, .int r55), (0, .ref u0), (2, .int u2), (3, .int v22_3)]) hx hb dX3_solve_107 hl (by decide) rfl (fun ls hl => ?_)
          exact L109 28 ls f61 H locs r55 0 (by decide) (lv_cons hl 2 rfl (lv_cons hl 1 rfl (lv_cons hl 0 rfl (lv_nil hl)))) h tf61 of61 i66 ⟨by decide, by decide⟩ k63
        · have c67 : r55.toInt = (-1) := congrArg Int32.toInt c64
          have i68 : iv r55 (-1) (-1) := iv_Q c67 ir55 (iv_k (x := (-1)) (k := (-1)) rfl) (by decide)
          refine lv_iconst (v := 0) hx hb dX3_solve_104 (by decide) ?_
          exact u_zret C h hr hQ ⟨by decide, by decide⟩ (⟨⟨by decide, by decide⟩, tf61, of61⟩) (Nat.le_of_ble_eq_true rfl) (Nat.le_of_ble_eq_true rfl) dX3_solve_105
      · have c51 : v22_4.toInt < z47.toInt := Int32.lt_iff_toInt_lt.mp (iv_nle c48)
        have i52 : iv v22_4 0 28 := iv_Ll c51 iv22_4 iz47 (by decide)
        refine lv_iconst (v := 0) hx hb dX3_solve_30 (by decide) ?_
        refine lv_istore (lv' := [(5, .int 0), (0, .ref u0), (2, .int u2), (3, .int v22_3), (4, .int v22_4)]) hx hb dX3_solve_31 hl (by decide) rfl (fun ls hl => ?_)
        exact L33 26 ls f_22 H locs 0 (by decide) (lv_cons hl 1 rfl (lv_cons hl 2 rfl (lv_cons hl 3 rfl (lv_cons hl 4 rfl (lv_cons hl 0 rfl (lv_nil hl)))))) h t_22 o_22 i52 ⟨by decide, by decide⟩ k22_u0_3 (show v22_3.toInt = (u1.toInt + 1) * (u2.toInt + 1) by omega)
  refine lv_iload_n hx hb dX3_solve_0 rfl (lv_at hl 1 rfl) ?_
  refine lv_iconst (v := 1) hx hb dX3_solve_1 (by decide) ?_
  refine i_addk hx hb dX3_solve_2 hu1 (k := 1) rfl (lo := 2) (hi := 5) (by decide) (fun z69 ez69 mz69 iz69 => ?_)
  refine lv_iload_n hx hb dX3_solve_3 rfl (lv_at hl 2 rfl) ?_
  refine lv_iconst (v := 1) hx hb dX3_solve_4 (by decide) ?_
  refine i_addk hx hb dX3_solve_5 hu2 (k := 1) rfl (lo := 1) (hi := 5) (by decide) (fun z70 ez70 mz70 iz70 => ?_)
  refine i_mulpm hx hb dX3_solve_6 iz69 iz70 (lo := 2) (hi := 25) (by decide) (fun z71 ez71 mz71 iz71 => ?_)
  have hm_ : z71.toInt = (u1.toInt + 1) * (u2.toInt + 1) := by rw [mz71, mz69, mz70]
  refine lv_istore_n (lv' := [(3, .int z71), (0, .ref u0), (1, .int u1), (2, .int u2)]) hx hb dX3_solve_7 rfl hl (by decide) rfl (fun ls hl => ?_)
  refine lv_aload_n hx hb dX3_solve_8 rfl (lv_at hl 1 rfl) ?_
  refine t_getr (tq := 40) C h t hu0 (by decide) wf_45 rfl fl_X3_9 dX3_solve_9 (fun q72 tq72 => ?_)
  refine lv_iload_n hx hb dX3_solve_12 rfl (lv_at hl 0 rfl) ?_
  refine lv_iconst (v := 4) hx hb dX3_solve_13 (by decide) ?_
  refine i_addk hx hb dX3_solve_14 iz71 (k := 4) rfl (lo := 6) (hi := 29) (by decide) (fun z73 ez73 mz73 iz73 => ?_)
  refine lv_iload_n hx hb dX3_solve_15 rfl (lv_at hl 0 rfl) ?_
  obtain ⟨_, r74⟩ := t_rec t tq72 (by decide) wf_40
  refine k_v (r_V C h hl (As := [.int z73, .int z71]) (rest := []) (s_X4_shape l D G b0 τ f t q72 tq72 z73 (iv_w iz73 (by decide)) z71 (iv_w iz71 (by decide))) r74 (Cn := RX4) (T := TX4) (N := 4) rfl rfl mk_X4_shape w_1052 w_787 w_788 w_789 ⟨Nat.le_of_ble_eq_true rfl, Nat.le_of_ble_eq_true rfl⟩ rfl (Nat.le_of_ble_eq_true rfl) ⟨Nat.le_of_ble_eq_true rfl, Nat.le_of_ble_eq_true rfl⟩ rfl dX3_solve_16) h (fun f76 H locs p77 h => ?_)
  obtain ⟨tf76, ogf76⟩ := p77
  have of76 : Fr [40, 41, 42, 48, 40002, 40003, 40004] τ f f76 := Fr.tr o ogf76 (by decide) (by decide)
  have k78 := atp.fr k_u0_3 ogf76 hu0 (by decide)
  refine lv_iconst (v := 0) hx hb dX3_solve_19 (by decide) ?_
  refine lv_istore (lv' := [(4, .int 0), (3, .int z71), (0, .ref u0), (1, .int u1), (2, .int u2)]) hx hb dX3_solve_20 hl (by decide) rfl (fun ls hl => ?_)
  exact L22 30 ls f76 H locs z71 0 (by decide) (lv_cons hl 2 rfl (lv_cons hl 4 rfl (lv_cons hl 1 rfl (lv_cons hl 0 rfl (lv_nil hl))))) h tf76 of76 iz71 ⟨by decide, by decide⟩ k78 (show z71.toInt = (u1.toInt + 1) * (u2.toInt + 1) by omega)
abbrev rm_s_X3_firstMissa : Room := { frames := 1, cells := 0, slots := 0, locals := 26 }
set_option maxRecDepth 100000 in
set_option maxHeartbeats 4000000 in
theorem s_X3_firstMissa (l : Launch) (D : va_G) (G : Nat → Nat) (b0 : Nat) (τ : Nat → Nat) (f : hM) (t : TI G 9 τ f) (u0 : Nat) (hu0 : τ u0 = 45) (u1 : Int32) (hu1 : iv u1 1 4) (u2 : Int32) (hu2 : iv u2 0 4) (wh : Int32) (hwh : iv wh 0 0) (k_u0_3 : atp f u0 (fd 3 (.int wh))) : mI l yX3_firstMiss cX3_firstMiss 9 (.int) rm_s_X3_firstMissa D G b0 f [.ref u0, .int u1, .int u2] (fun r f1 => iv r (-1) 59 ∧ TI G 9 τ f1 ∧ Fr [] τ f f1) := by
  refine met2 (own := RX3) (by decide) rfl (Nat.le_of_ble_eq_true rfl) ?_
  intro p e s m args below meth c ls Q hQ C hr hini hl h
  have hl : lv_has ls 9 [(0, .ref u0), (1, .int u1), (2, .int u2)] := hl
  obtain ⟨hx, hb, hml, hown, hts, hE0, hlk⟩ := id C
  have o := Fr.rf [] τ f
  have L30 : ∀ (n30 : Nat) (ls : Array Slot) (f_30 : hM) (H : Heap) (locs : List Loc) (v30_3 : Int32) (v30_4 : Int32) (v30_5 : Int32), 60 - v30_5.toInt < (n30 : Int) → lv_has ls 9 [(0, .ref u0), (2, .int u2), (3, .int v30_3), (4, .int v30_4), (5, .int v30_5)] → hw D b0 s.heap f_30 H locs → TI G 9 τ f_30 → Fr [] τ f f_30 → iv v30_3 2 25 → iv v30_4 56 59 → iv v30_5 0 60 → atp f_30 u0 (fd 3 (.int wh)) → v30_3.toInt = (u1.toInt + 1) * (u2.toInt + 1) → v30_4.toInt = 60 - u1.toInt → W p l e rm_s_X3_firstMissa s m args below meth c H locs 0 0 Q (F0 m 30 ls []) := by
    intro n30
    induction n30 with
    | zero => intro ls f_30 H locs v30_3 v30_4 v30_5 hm30 hl h t_30 o_30 iv30_3 iv30_4 iv30_5 k30_u0_3 hv30_0 hv30_1; exact absurd hm30 (by omega)
    | succ n30 ih30 =>
      intro ls f_30 H locs v30_3 v30_4 v30_5 hm30 hl h t_30 o_30 iv30_3 iv30_4 iv30_5 k30_u0_3 hv30_0 hv30_1
      have L43 : ∀ (n43 : Nat) (ls : Array Slot) (f_43 : hM) (H : Heap) (locs : List Loc) (v43_6 : Int64) (v43_8 : Int32), 25 - v43_8.toInt < (n43 : Int) → lv_has ls 9 [(0, .ref u0), (2, .int u2), (3, .int v30_3), (4, .int v30_4), (5, .int v30_5), (6, .long v43_6), (8, .int v43_8)] → hw D b0 s.heap f_43 H locs → TI G 9 τ f_43 → Fr [] τ f f_43 → iv v30_5 0 59 → iv v43_8 0 25 → atp f_43 u0 (fd 3 (.int wh)) → v30_3.toInt = (u1.toInt + 1) * (u2.toInt + 1) → v30_4.toInt = 60 - u1.toInt → v30_5.toInt ≤ v30_4.toInt → W p l e rm_s_X3_firstMissa s m args below meth c H locs 0 0 Q (F0 m 43 ls []) := by
        intro n43
        induction n43 with
        | zero => intro ls f_43 H locs v43_6 v43_8 hm43 hl h t_43 o_43 jv43_5 iv43_8 k43_u0_3 hv43_0 hv43_1 hv43_2; exact absurd hm43 (by omega)
        | succ n43 ih43 =>
          intro ls f_43 H locs v43_6 v43_8 hm43 hl h t_43 o_43 jv43_5 iv43_8 k43_u0_3 hv43_0 hv43_1 hv43_2
          refine lv_iload hx hb dX3_firstMiss_43 (lv_at hl 6 rfl) ?_
          refine lv_iload_n hx hb dX3_firstMiss_45 rfl (lv_at hl 2 rfl) ?_
          refine lv_icmp_ge (tgt := 101) hx hb dX3_firstMiss_46 (by decide) (fun c1 => ?_) (fun c1 => ?_)
          · have c2 : v30_3.toInt ≤ v43_8.toInt := Int32.le_iff_toInt_le.mp c1
            have i3 : iv v43_8 2 25 := iv_Er c2 iv30_3 iv43_8 (by decide)
            refine lv_lload hx hb dX3_firstMiss_101 (lv_at hl 5 rfl) ?_
            refine lv_ldc2 (v := 1000003) hx hb hown (hts _ w_1057) dX3_firstMiss_103 ?_
            refine lv_lrem hx hb dX3_firstMiss_106 (by decide) (i_topl (lrem_iv (k := 1000003) rfl (by decide) (lo := -1000002) (hi := 1000002) (by decide)) (fun w6 ew6 iw6 => ?_))
            refine lv_lconst (v := 0) hx hb dX3_firstMiss_107 (by decide) ?_
            refine W.lcmp hx hb dX3_firstMiss_108 (i_topc (fun z7 ez7 mz7 iz7 => ?_))
            refine lv_if_eq (tgt := 115) hx hb dX3_firstMiss_109 (by decide) (fun c8 => ?_) (fun c8 => ?_)
            · have c9 : z7.toInt = 0 := congrArg Int32.toInt c8
              have i10 : iv z7 0 0 := iv_Q c9 iz7 (iv_k (x := 0) (k := 0) rfl) (by decide)
              refine i_inc hx hb dX3_firstMiss_115 hl (k := 4) rfl jv43_5 rfl (lo := 1) (hi := 60) (by decide) (by decide) (lv' := fun v => [(5, .int v), (0, .ref u0), (2, .int u2), (3, .int v30_3), (4, .int v30_4), (6, .long v43_6), (8, .int v43_8)]) (fun _ => rfl) (fun z12 ls ez12 mz12 iz12 hl => ?_)
              refine lv_goto (tgt := 30) hx hb dX3_firstMiss_118 (by decide) ?_
              exact ih30 ls f_43 H locs v30_3 v30_4 z12 (show 60 - z12.toInt < _ by omega) (lv_cons hl 1 rfl (lv_cons hl 2 rfl (lv_cons hl 3 rfl (lv_cons hl 4 rfl (lv_cons hl 0 rfl (lv_nil hl)))))) h t_43 o_43 iv30_3 iv30_4 (iv_w iz12 (by decide)) k43_u0_3 (show v30_3.toInt = (u1.toInt + 1) * (u2.toInt + 1) by omega) (show v30_4.toInt = 60 - u1.toInt by omega)
            · have c11 : z7.toInt ≠ 0 := fun z_ => c8 (Int32.toInt_inj.mp z_)
              refine lv_iload hx hb dX3_firstMiss_112 (lv_at hl 4 rfl) ?_
              exact u_iret C h hr hQ (⟨(iv_w jv43_5 (by decide)), t_43, o_43⟩) (Nat.le_of_ble_eq_true rfl) (Nat.le_of_ble_eq_true rfl) dX3_firstMiss_114
          · have c4 : v43_8.toInt < v30_3.toInt := Int32.lt_iff_toInt_lt.mp (iv_nle c1)
            have i5 : iv v43_8 0 24 := iv_Ll c4 iv43_8 iv30_3 (by decide)
            refine lv_aload_n hx hb dX3_firstMiss_49 rfl (lv_at hl 0 rfl) ?_
            refine t_getr (tq := 48) C h t_43 hu0 (by decide) wf_45 rfl fl_X3_22 dX3_firstMiss_50 (fun q13 tq13 => ?_)
            refine lv_iload hx hb dX3_firstMiss_53 (lv_at hl 6 rfl) ?_
            refine t_iald C h t_43 tq13 (by decide) wf_48 (iv_in i5 (by decide)) dX3_firstMiss_55 (fun z14 iz14 => ?_)
            refine lv_if_eq (tgt := 95) hx hb dX3_firstMiss_56 (by decide) (fun c15 => ?_) (fun c15 => ?_)
            · have c16 : z14.toInt = 0 := congrArg Int32.toInt c15
              have i17 : iv z14 0 0 := iv_Q c16 iz14 (iv_k (x := 0) (k := 0) rfl) (by decide)
              refine i_inc hx hb dX3_firstMiss_95 hl (k := 6) rfl i5 rfl (lo := 1) (hi := 25) (by decide) (by decide) (lv' := fun v => [(8, .int v), (0, .ref u0), (2, .int u2), (3, .int v30_3), (4, .int v30_4), (5, .int v30_5), (6, .long v43_6)]) (fun _ => rfl) (fun z19 ls ez19 mz19 iz19 hl => ?_)
              refine lv_goto (tgt := 43) hx hb dX3_firstMiss_98 (by decide) ?_
              exact ih43 ls f_43 H locs v43_6 z19 (show 25 - z19.toInt < _ by omega) (lv_cons hl 1 rfl (lv_cons hl 2 rfl (lv_cons hl 3 rfl (lv_cons hl 4 rfl (lv_cons hl 5 rfl (lv_cons hl 6 rfl (lv_cons hl 0 rfl (lv_nil hl)))))))) h t_43 o_43 jv43_5 (iv_w iz19 (by decide)) k43_u0_3 (show v30_3.toInt = (u1.toInt + 1) * (u2.toInt + 1) by omega) (show v30_4.toInt = 60 - u1.toInt by omega) (show v30_5.toInt ≤ v30_4.toInt by omega)
            · have c18 : z14.toInt ≠ 0 := fun z_ => c15 (Int32.toInt_inj.mp z_)
              refine lv_lload hx hb dX3_firstMiss_59 (lv_at hl 5 rfl) ?_
              refine lv_aload_n hx hb dX3_firstMiss_61 rfl (lv_at hl 0 rfl) ?_
              refine t_getr (tq := 48) C h t_43 hu0 (by decide) wf_45 rfl fl_X3_22 dX3_firstMiss_62 (fun q20 tq20 => ?_)
              refine lv_iload hx hb dX3_firstMiss_65 (lv_at hl 6 rfl) ?_
              refine t_iald C h t_43 tq20 (by decide) wf_48 (iv_in i5 (by decide)) dX3_firstMiss_67 (fun z21 iz21 => ?_)
              refine lv_i2l hx hb dX3_firstMiss_68 rfl (i_topL iz21 (fun w22 ew22 mw22 iw22 => ?_))
              refine lv_aload_n hx hb dX3_firstMiss_69 rfl (lv_at hl 0 rfl) ?_
              refine lv_iload hx hb dX3_firstMiss_70 (lv_at hl 6 rfl) ?_
              refine lv_iload_n hx hb dX3_firstMiss_72 rfl (lv_at hl 1 rfl) ?_
              refine lv_iconst (v := 1) hx hb dX3_firstMiss_73 (by decide) ?_
              refine i_addk hx hb dX3_firstMiss_74 hu2 (k := 1) rfl (lo := 1) (hi := 5) (by decide) (fun z23 ez23 mz23 iz23 => ?_)
              refine lv_idiv hx hb dX3_firstMiss_75 (iv_nz iz23 (by decide)) (i_top (iv_divp (iv_w i5 (by decide) : iv _ 0 24) iz23 (by decide)) (fun z24 ez24 iz24 => ?_))
              have q25 : z24.toInt < u1.toInt + 1 := by rw [ez24]; exact div_lt (by omega) mz23 (by omega) hv43_0 (by omega)
              have i26 : iv z24 0 4 := ⟨by omega, by omega⟩
              refine lv_iload hx hb dX3_firstMiss_76 (lv_at hl 6 rfl) ?_
              refine lv_iload_n hx hb dX3_firstMiss_78 rfl (lv_at hl 1 rfl) ?_
              refine lv_iconst (v := 1) hx hb dX3_firstMiss_79 (by decide) ?_
              refine i_addk hx hb dX3_firstMiss_80 hu2 (k := 1) rfl (lo := 1) (hi := 5) (by decide) (fun z27 ez27 mz27 iz27 => ?_)
              refine lv_irem hx hb dX3_firstMiss_81 (iv_nz iz27 (by decide)) (i_topm (P := fun q_ => q_ < Int32.toInt z27 ∧ q_ ≤ Int32.toInt v43_8) (iv_remm (iv_w i5 (by decide) : iv _ 0 24) iz27 (by decide)) (fun z28 ez28 mz28 iz28 => ?_))
              refine lv_iload hx hb dX3_firstMiss_82 (lv_at hl 4 rfl) ?_
              obtain ⟨_, r29⟩ := t_rec t_43 hu0 (by decide) wf_45
              refine k_i (r_V C h hl (As := [.int z24, .int z28, .int v30_5]) (rest := [.long w22, .long v43_6]) (s_X3_factora l D G b0 τ f_43 t_43 u0 hu0 z24 i26 z28 iz28 v30_5 (iv_w jv43_5 (by decide)) wh hwh k43_u0_3 (by omega)) r29 (Cn := RX3) (T := TX3) (N := 4) rfl rfl mk_X3_factor w_1053 w_1055 w_29 w_1056 ⟨Nat.le_of_ble_eq_true rfl, Nat.le_of_ble_eq_true rfl⟩ rfl (Nat.le_of_ble_eq_true rfl) ⟨Nat.le_of_ble_eq_true rfl, Nat.le_of_ble_eq_true rfl⟩ rfl dX3_firstMiss_84) h (fun r30 f31 H locs p32 h => ?_)
              obtain ⟨ir30, tf31, ogf31⟩ := p32
              have egf31 := Fr.nil2 ogf31
              subst egf31
              refine lv_i2l hx hb dX3_firstMiss_87 rfl (i_topL ir30 (fun w33 ew33 mw33 iw33 => ?_))
              refine k_i (r_SN C h hl (host := "QuarterWalks") (As := [.long w22, .long w33]) (rest := [.long v43_6]) (s_X10_times l D G b0 τ f_43 t_43 w22 w33) mk_X10_times (by decide) w_807 w_808 ⟨Nat.le_of_ble_eq_true rfl, Nat.le_of_ble_eq_true rfl⟩ rfl (Nat.le_of_ble_eq_true rfl) ⟨Nat.le_of_ble_eq_true rfl, Nat.le_of_ble_eq_true rfl⟩ rfl dX3_firstMiss_88) h (fun r34 f35 H locs p36 h => ?_)
              obtain ⟨ir34, tf35, ogf35⟩ := p36
              have egf35 := Fr.nil2 ogf35
              subst egf35
              refine lv_i2l hx hb dX3_firstMiss_91 rfl (i_topL ir34 (fun w37 ew37 mw37 iw37 => ?_))
              refine lv_ladd hx hb dX3_firstMiss_92 (lv_topl (fun w38 ew38 => ?_))
              refine lv_lstore (lv' := [(6, .long w38), (0, .ref u0), (2, .int u2), (3, .int v30_3), (4, .int v30_4), (5, .int v30_5), (8, .int v43_8)]) hx hb dX3_firstMiss_93 hl (by decide) rfl (fun ls hl => ?_)
              refine i_inc hx hb dX3_firstMiss_95 hl (k := 6) rfl i5 rfl (lo := 1) (hi := 25) (by decide) (by decide) (lv' := fun v => [(8, .int v), (6, .long w38), (0, .ref u0), (2, .int u2), (3, .int v30_3), (4, .int v30_4), (5, .int v30_5)]) (fun _ => rfl) (fun z39 ls ez39 mz39 iz39 hl => ?_)
              refine lv_goto (tgt := 43) hx hb dX3_firstMiss_98 (by decide) ?_
              exact ih43 ls f_43 H locs w38 z39 (show 25 - z39.toInt < _ by omega) (lv_cons hl 2 rfl (lv_cons hl 3 rfl (lv_cons hl 4 rfl (lv_cons hl 5 rfl (lv_cons hl 6 rfl (lv_cons hl 1 rfl (lv_cons hl 0 rfl (lv_nil hl)))))))) h t_43 o_43 jv43_5 (iv_w iz39 (by decide)) k43_u0_3 (show v30_3.toInt = (u1.toInt + 1) * (u2.toInt + 1) by omega) (show v30_4.toInt = 60 - u1.toInt by omega) (show v30_5.toInt ≤ v30_4.toInt by omega)
      refine lv_iload hx hb dX3_firstMiss_30 (lv_at hl 4 rfl) ?_
      refine lv_iload hx hb dX3_firstMiss_32 (lv_at hl 3 rfl) ?_
      refine lv_icmp_gt (tgt := 121) hx hb dX3_firstMiss_34 (by decide) (fun c40 => ?_) (fun c40 => ?_)
      · have c41 : v30_4.toInt < v30_5.toInt := Int32.lt_iff_toInt_lt.mp c40
        have i42 : iv v30_5 57 60 := iv_Lr c41 iv30_4 iv30_5 (by decide)
        refine lv_iconst (v := -1) hx hb dX3_firstMiss_121 (by decide) ?_
        exact u_iret C h hr hQ (⟨⟨by decide, by decide⟩, t_30, o_30⟩) (Nat.le_of_ble_eq_true rfl) (Nat.le_of_ble_eq_true rfl) dX3_firstMiss_122
      · have c43 : v30_5.toInt ≤ v30_4.toInt := Int32.le_iff_toInt_le.mp (iv_nlt c40)
        have i44 : iv v30_5 0 59 := iv_El c43 iv30_5 iv30_4 (by decide)
        refine lv_lconst (v := 0) hx hb dX3_firstMiss_37 (by decide) ?_
        refine lv_lstore (lv' := [(6, .long 0), (0, .ref u0), (2, .int u2), (3, .int v30_3), (4, .int v30_4), (5, .int v30_5)]) hx hb dX3_firstMiss_38 hl (by decide) rfl (fun ls hl => ?_)
        refine lv_iconst (v := 0) hx hb dX3_firstMiss_40 (by decide) ?_
        refine lv_istore (lv' := [(8, .int 0), (6, .long 0), (0, .ref u0), (2, .int u2), (3, .int v30_3), (4, .int v30_4), (5, .int v30_5)]) hx hb dX3_firstMiss_41 hl (by decide) rfl (fun ls hl => ?_)
        exact L43 26 ls f_30 H locs 0 0 (by decide) (lv_cons hl 2 rfl (lv_cons hl 3 rfl (lv_cons hl 4 rfl (lv_cons hl 5 rfl (lv_cons hl 6 rfl (lv_cons hl 1 rfl (lv_cons hl 0 rfl (lv_nil hl)))))))) h t_30 o_30 i44 ⟨by decide, by decide⟩ k30_u0_3 (show v30_3.toInt = (u1.toInt + 1) * (u2.toInt + 1) by omega) (show v30_4.toInt = 60 - u1.toInt by omega) (show v30_5.toInt ≤ v30_4.toInt by omega)
  refine lv_iload_n hx hb dX3_firstMiss_0 rfl (lv_at hl 1 rfl) ?_
  refine lv_iconst (v := 1) hx hb dX3_firstMiss_1 (by decide) ?_
  refine i_addk hx hb dX3_firstMiss_2 hu1 (k := 1) rfl (lo := 2) (hi := 5) (by decide) (fun z45 ez45 mz45 iz45 => ?_)
  refine lv_iload_n hx hb dX3_firstMiss_3 rfl (lv_at hl 2 rfl) ?_
  refine lv_iconst (v := 1) hx hb dX3_firstMiss_4 (by decide) ?_
  refine i_addk hx hb dX3_firstMiss_5 hu2 (k := 1) rfl (lo := 1) (hi := 5) (by decide) (fun z46 ez46 mz46 iz46 => ?_)
  refine i_mulpm hx hb dX3_firstMiss_6 iz45 iz46 (lo := 2) (hi := 25) (by decide) (fun z47 ez47 mz47 iz47 => ?_)
  have hm_ : z47.toInt = (u1.toInt + 1) * (u2.toInt + 1) := by rw [mz47, mz45, mz46]
  refine lv_istore_n (lv' := [(3, .int z47), (0, .ref u0), (1, .int u1), (2, .int u2)]) hx hb dX3_firstMiss_7 rfl hl (by decide) rfl (fun ls hl => ?_)
  refine lv_aload_n hx hb dX3_firstMiss_8 rfl (lv_at hl 1 rfl) ?_
  refine t_getfd C h t hu0 (by decide) wf_45 (v := .int wh) k_u0_3 fl_X3_30 dX3_firstMiss_9 ?_
  refine lv_iconst (v := 1) hx hb dX3_firstMiss_12 (by decide) ?_
  refine lv_icmp_ne (tgt := 21) hx hb dX3_firstMiss_13 (by decide) (fun c48 => ?_) (fun c48 => ?_)
  · have c49 : wh.toInt ≠ 1 := fun z_ => c48 (Int32.toInt_inj.mp z_)
    refine lv_bipush (v := 60) hx hb dX3_firstMiss_21 (by decide) ?_
    refine lv_iload_n hx hb dX3_firstMiss_23 rfl (lv_at hl 2 rfl) ?_
    refine i_ksub hx hb dX3_firstMiss_24 (k := 60) rfl hu1 (lo := 56) (hi := 59) (by decide) (fun z51 ez51 mz51 iz51 => ?_)
    refine lv_istore (lv' := [(4, .int z51), (3, .int z47), (0, .ref u0), (1, .int u1), (2, .int u2)]) hx hb dX3_firstMiss_25 hl (by decide) rfl (fun ls hl => ?_)
    refine lv_iconst (v := 0) hx hb dX3_firstMiss_27 (by decide) ?_
    refine lv_istore (lv' := [(5, .int 0), (4, .int z51), (3, .int z47), (0, .ref u0), (1, .int u1), (2, .int u2)]) hx hb dX3_firstMiss_28 hl (by decide) rfl (fun ls hl => ?_)
    exact L30 61 ls f s.heap [] z47 z51 0 (by decide) (lv_cons hl 3 rfl (lv_cons hl 5 rfl (lv_cons hl 2 rfl (lv_cons hl 1 rfl (lv_cons hl 0 rfl (lv_nil hl)))))) h t o iz47 iz51 ⟨by decide, by decide⟩ k_u0_3 (show z47.toInt = (u1.toInt + 1) * (u2.toInt + 1) by omega) (show z51.toInt = 60 - u1.toInt by omega)
  · have c50 : wh.toInt = 1 := congrArg Int32.toInt c48
    exact (iv_cq_ c50 hwh (iv_k (x := 1) (k := 1) rfl) (by decide)).elim
abbrev rm_s_X3_coefficienta : Room := { frames := 4, cells := 0, slots := 0, locals := 99 }
set_option maxRecDepth 100000 in
set_option maxHeartbeats 4000000 in
theorem s_X3_coefficienta (l : Launch) (D : va_G) (G : Nat → Nat) (b0 : Nat) (τ : Nat → Nat) (f : hM) (t : TI G 9 τ f) (u0 : Nat) (hu0 : τ u0 = 45) (u1 : Int32) (hu1 : iv u1 1 4) (u2 : Int32) (hu2 : iv u2 0 4) (u3 : Int32) (hu3 : iv u3 (-2147483648) 2147483647) (u4 : Int32) (hu4 : iv u4 (-2147483648) 2147483647) (wh : Int32) (hwh : iv wh 0 0) (k_u0_3 : atp f u0 (fd 3 (.int wh))) : mI l yX3_coefficient cX3_coefficient 6 (.int) rm_s_X3_coefficienta D G b0 f [.ref u0, .int u1, .int u2, .int u3, .int u4] (fun r f1 => iv r (-2147483648) 2147483647 ∧ TI G 9 τ f1 ∧ Fr [40, 41, 42, 48, 40002, 40003, 40004] τ f f1) := by
  refine met2 (own := RX3) (by decide) rfl (Nat.le_of_ble_eq_true rfl) ?_
  intro p e s m args below meth c ls Q hQ C hr hini hl h
  have hl : lv_has ls 6 [(0, .ref u0), (1, .int u1), (2, .int u2), (3, .int u3), (4, .int u4)] := hl
  obtain ⟨hx, hb, hml, hown, hts, hE0, hlk⟩ := id C
  have o := Fr.rf [40, 41, 42, 48, 40002, 40003, 40004] τ f
  refine lv_iload_n hx hb dX3_coefficient_0 rfl (lv_at hl 3 rfl) ?_
  refine lv_iload_n hx hb dX3_coefficient_1 rfl (lv_at hl 2 rfl) ?_
  refine lv_iconst (v := 1) hx hb dX3_coefficient_2 (by decide) ?_
  refine i_addk hx hb dX3_coefficient_3 hu2 (k := 1) rfl (lo := 1) (hi := 5) (by decide) (fun z1 ez1 mz1 iz1 => ?_)
  refine lv_imul hx hb dX3_coefficient_4 (i_top (iv_any _) (fun z2 ez2 iz2 => ?_))
  refine lv_iload hx hb dX3_coefficient_5 (lv_at hl 4 rfl) ?_
  refine lv_iadd hx hb dX3_coefficient_7 (i_top (iv_any _) (fun z3 ez3 iz3 => ?_))
  refine lv_istore (lv' := [(5, .int z3), (0, .ref u0), (1, .int u1), (2, .int u2), (3, .int u3), (4, .int u4)]) hx hb dX3_coefficient_8 hl (by decide) rfl (fun ls hl => ?_)
  refine lv_aload_n hx hb dX3_coefficient_10 rfl (lv_at hl 1 rfl) ?_
  refine lv_iload_n hx hb dX3_coefficient_11 rfl (lv_at hl 2 rfl) ?_
  refine lv_iload_n hx hb dX3_coefficient_12 rfl (lv_at hl 3 rfl) ?_
  obtain ⟨_, r4⟩ := t_rec t hu0 (by decide) wf_45
  refine k_i (r_V C h hl (As := [.int u1, .int u2]) (rest := []) (s_X3_solvea l D G b0 τ f t u0 hu0 u1 hu1 u2 hu2 wh hwh k_u0_3) r4 (Cn := RX3) (T := TX3) (N := 4) rfl rfl mk_X3_solve w_1048 w_1050 w_28 w_1051 ⟨Nat.le_of_ble_eq_true rfl, Nat.le_of_ble_eq_true rfl⟩ rfl (Nat.le_of_ble_eq_true rfl) ⟨Nat.le_of_ble_eq_true rfl, Nat.le_of_ble_eq_true rfl⟩ rfl dX3_coefficient_13) h (fun r5 f6 H locs p7 h => ?_)
  obtain ⟨ir5, tf6, ogf6⟩ := p7
  have of6 : Fr [40, 41, 42, 48, 40002, 40003, 40004] τ f f6 := Fr.tr o ogf6 (by decide) (by decide)
  have k8 := atp.fr k_u0_3 ogf6 hu0 (by decide)
  refine lv_if_eq (tgt := 45) hx hb dX3_coefficient_16 (by decide) (fun c9 => ?_) (fun c9 => ?_)
  · have c10 : r5.toInt = 0 := congrArg Int32.toInt c9
    have i11 : iv r5 0 0 := iv_Q c10 ir5 (iv_k (x := 0) (k := 0) rfl) (by decide)
    refine lv_iconst (v := -1) hx hb dX3_coefficient_45 (by decide) ?_
    exact u_iret C h hr hQ (⟨⟨by decide, by decide⟩, tf6, of6⟩) (Nat.le_of_ble_eq_true rfl) (Nat.le_of_ble_eq_true rfl) dX3_coefficient_46
  · have c12 : r5.toInt ≠ 0 := fun z_ => c9 (Int32.toInt_inj.mp z_)
    have i13 : iv r5 1 1 := iv_Nl c12 ir5 (by decide)
    refine lv_iload hx hb dX3_coefficient_19 (lv_at hl 0 rfl) ?_
    refine lv_iconst (v := 0) hx hb dX3_coefficient_21 (by decide) ?_
    refine lv_aload_n hx hb dX3_coefficient_22 rfl (lv_at hl 1 rfl) ?_
    refine t_getr (tq := 48) C h tf6 hu0 (by decide) wf_45 rfl fl_X3_22 dX3_coefficient_23 (fun q14 tq14 => ?_)
    refine t_alen C h tf6 tq14 (by decide) (n := 28) (v := 28) (fun e_ h_ => Or.inl ⟨_, _, wf_48 e_ h_⟩) rfl dX3_coefficient_26 ?_
    refine lv_iconst (v := 1) hx hb dX3_coefficient_27 (by decide) ?_
    refine lv_isub hx hb dX3_coefficient_28 (lv_topi (fun x_ e_ => ?_))
    obtain rfl : 27 = x_ := by rw [e_]; decide
    refine k_i (r_SN C h hl (host := "QuarterWalks") (As := [.int z3, .int 0, .int 27]) (rest := []) (s_X10_within l D G b0 τ f6 tf6 z3 iz3 0 (iv_w (iv_k (x := 0) (k := 0) rfl) (by decide)) 27 (iv_w (iv_k (x := 27) (k := 27) rfl) (by decide))) mk_X10_within (by decide) w_426 w_427 ⟨Nat.le_of_ble_eq_true rfl, Nat.le_of_ble_eq_true rfl⟩ rfl (Nat.le_of_ble_eq_true rfl) ⟨Nat.le_of_ble_eq_true rfl, Nat.le_of_ble_eq_true rfl⟩ rfl dX3_coefficient_29) h (fun r15 f16 H locs p17 h => ?_)
    have n18 : (0 : Int32).toInt = 0 := rfl
    have n19 : (27 : Int32).toInt = 27 := rfl
    obtain ⟨ir15, tf16, ogf16, cnr15, czr15⟩ := p17
    have egf16 := Fr.nil2 ogf16
    subst egf16
    refine lv_if_eq (tgt := 45) hx hb dX3_coefficient_32 (by decide) (fun c20 => ?_) (fun c20 => ?_)
    · have c21 : r15.toInt = 0 := congrArg Int32.toInt c20
      have i22 : iv r15 0 0 := iv_Q c21 ir15 (iv_k (x := 0) (k := 0) rfl) (by decide)
      have i23 := czr15 c21
      refine lv_iconst (v := -1) hx hb dX3_coefficient_45 (by decide) ?_
      exact u_iret C h hr hQ (⟨⟨by decide, by decide⟩, tf6, of6⟩) (Nat.le_of_ble_eq_true rfl) (Nat.le_of_ble_eq_true rfl) dX3_coefficient_46
    · have c24 : r15.toInt ≠ 0 := fun z_ => c20 (Int32.toInt_inj.mp z_)
      have i25 : iv r15 1 1 := iv_Nl c24 ir15 (by decide)
      obtain ⟨i26, i27⟩ := cnr15 c24
      have i28 : iv z3 0 27 := ⟨by omega, by omega⟩
      refine lv_aload_n hx hb dX3_coefficient_35 rfl (lv_at hl 1 rfl) ?_
      refine t_getr (tq := 48) C h tf6 hu0 (by decide) wf_45 rfl fl_X3_22 dX3_coefficient_36 (fun q29 tq29 => ?_)
      refine lv_iload hx hb dX3_coefficient_39 (lv_at hl 0 rfl) ?_
      refine t_iald C h tf6 tq29 (by decide) wf_48 (iv_in i28 (by decide)) dX3_coefficient_41 (fun z30 iz30 => ?_)
      refine lv_goto (tgt := 46) hx hb dX3_coefficient_42 (by decide) ?_
      exact u_iret C h hr hQ (⟨iz30, tf6, of6⟩) (Nat.le_of_ble_eq_true rfl) (Nat.le_of_ble_eq_true rfl) dX3_coefficient_46
abbrev rm_s_X3_failinga : Room := { frames := 4, cells := 0, slots := 0, locals := 99 }
set_option maxRecDepth 100000 in
set_option maxHeartbeats 4000000 in
theorem s_X3_failinga (l : Launch) (D : va_G) (G : Nat → Nat) (b0 : Nat) (τ : Nat → Nat) (f : hM) (t : TI G 9 τ f) (u0 : Nat) (hu0 : τ u0 = 45) (u1 : Int32) (hu1 : iv u1 1 4) (u2 : Int32) (hu2 : iv u2 0 4) (wh : Int32) (hwh : iv wh 0 0) (k_u0_3 : atp f u0 (fd 3 (.int wh))) : mI l yX3_failing cX3_failing 3 (.int) rm_s_X3_failinga D G b0 f [.ref u0, .int u1, .int u2] (fun r f1 => iv r (-2) 59 ∧ TI G 9 τ f1 ∧ Fr [40, 41, 42, 48, 40002, 40003, 40004] τ f f1) := by
  refine met2 (own := RX3) (by decide) rfl (Nat.le_of_ble_eq_true rfl) ?_
  intro p e s m args below meth c ls Q hQ C hr hini hl h
  have hl : lv_has ls 3 [(0, .ref u0), (1, .int u1), (2, .int u2)] := hl
  obtain ⟨hx, hb, hml, hown, hts, hE0, hlk⟩ := id C
  have o := Fr.rf [40, 41, 42, 48, 40002, 40003, 40004] τ f
  refine lv_aload_n hx hb dX3_failing_0 rfl (lv_at hl 0 rfl) ?_
  refine lv_iload_n hx hb dX3_failing_1 rfl (lv_at hl 1 rfl) ?_
  refine lv_iload_n hx hb dX3_failing_2 rfl (lv_at hl 2 rfl) ?_
  obtain ⟨_, r1⟩ := t_rec t hu0 (by decide) wf_45
  refine k_i (r_V C h hl (As := [.int u1, .int u2]) (rest := []) (s_X3_solvea l D G b0 τ f t u0 hu0 u1 hu1 u2 hu2 wh hwh k_u0_3) r1 (Cn := RX3) (T := TX3) (N := 4) rfl rfl mk_X3_solve w_1048 w_1050 w_28 w_1051 ⟨Nat.le_of_ble_eq_true rfl, Nat.le_of_ble_eq_true rfl⟩ rfl (Nat.le_of_ble_eq_true rfl) ⟨Nat.le_of_ble_eq_true rfl, Nat.le_of_ble_eq_true rfl⟩ rfl dX3_failing_3) h (fun r2 f3 H locs p4 h => ?_)
  obtain ⟨ir2, tf3, ogf3⟩ := p4
  have of3 : Fr [40, 41, 42, 48, 40002, 40003, 40004] τ f f3 := Fr.tr o ogf3 (by decide) (by decide)
  have k5 := atp.fr k_u0_3 ogf3 hu0 (by decide)
  refine lv_if_eq (tgt := 18) hx hb dX3_failing_6 (by decide) (fun c6 => ?_) (fun c6 => ?_)
  · have c7 : r2.toInt = 0 := congrArg Int32.toInt c6
    have i8 : iv r2 0 0 := iv_Q c7 ir2 (iv_k (x := 0) (k := 0) rfl) (by decide)
    refine lv_bipush (v := -2) hx hb dX3_failing_18 (by decide) ?_
    exact u_iret C h hr hQ (⟨⟨by decide, by decide⟩, tf3, of3⟩) (Nat.le_of_ble_eq_true rfl) (Nat.le_of_ble_eq_true rfl) dX3_failing_20
  · have c9 : r2.toInt ≠ 0 := fun z_ => c6 (Int32.toInt_inj.mp z_)
    have i10 : iv r2 1 1 := iv_Nl c9 ir2 (by decide)
    refine lv_aload_n hx hb dX3_failing_9 rfl (lv_at hl 0 rfl) ?_
    refine lv_iload_n hx hb dX3_failing_10 rfl (lv_at hl 1 rfl) ?_
    refine lv_iload_n hx hb dX3_failing_11 rfl (lv_at hl 2 rfl) ?_
    obtain ⟨_, r11⟩ := t_rec tf3 hu0 (by decide) wf_45
    refine k_i (r_V C h hl (As := [.int u1, .int u2]) (rest := []) (s_X3_firstMissa l D G b0 τ f3 tf3 u0 hu0 u1 hu1 u2 hu2 wh hwh k5) r11 (Cn := RX3) (T := TX3) (N := 4) rfl rfl mk_X3_firstMiss w_1075 w_1077 w_30 w_1078 ⟨Nat.le_of_ble_eq_true rfl, Nat.le_of_ble_eq_true rfl⟩ rfl (Nat.le_of_ble_eq_true rfl) ⟨Nat.le_of_ble_eq_true rfl, Nat.le_of_ble_eq_true rfl⟩ rfl dX3_failing_12) h (fun r12 f13 H locs p14 h => ?_)
    obtain ⟨ir12, tf13, ogf13⟩ := p14
    have egf13 := Fr.nil2 ogf13
    subst egf13
    refine lv_goto (tgt := 20) hx hb dX3_failing_15 (by decide) ?_
    exact u_iret C h hr hQ (⟨(iv_w ir12 (by decide)), tf3, of3⟩) (Nat.le_of_ble_eq_true rfl) (Nat.le_of_ble_eq_true rfl) dX3_failing_20
abbrev rm_s_X3_smallesta : Room := { frames := 4, cells := 0, slots := 0, locals := 99 }
set_option maxRecDepth 100000 in
set_option maxHeartbeats 4000000 in
theorem s_X3_smallesta (l : Launch) (D : va_G) (G : Nat → Nat) (b0 : Nat) (τ : Nat → Nat) (f : hM) (t : TI G 9 τ f) (u0 : Nat) (hu0 : τ u0 = 45) (wh : Int32) (hwh : iv wh 0 0) (k_u0_3 : atp f u0 (fd 3 (.int wh))) : mI l yX3_smallest cX3_smallest 5 (.int) rm_s_X3_smallesta D G b0 f [.ref u0] (fun r f1 => iv r (-1) 44 ∧ TI G 9 τ f1 ∧ Fr [40, 41, 42, 48, 40002, 40003, 40004] τ f f1) := by
  refine met2 (own := RX3) (by decide) rfl (Nat.le_of_ble_eq_true rfl) ?_
  intro p e s m args below meth c ls Q hQ C hr hini hl h
  have hl : lv_has ls 5 [(0, .ref u0)] := hl
  obtain ⟨hx, hb, hml, hown, hts, hE0, hlk⟩ := id C
  have o := Fr.rf [40, 41, 42, 48, 40002, 40003, 40004] τ f
  have L2 : ∀ (n2 : Nat) (ls : Array Slot) (f_2 : hM) (H : Heap) (locs : List Loc) (v2_1 : Int32), 29 - v2_1.toInt < (n2 : Int) → lv_has ls 5 [(0, .ref u0), (1, .int v2_1)] → hw D b0 s.heap f_2 H locs → TI G 9 τ f_2 → Fr [40, 41, 42, 48, 40002, 40003, 40004] τ f f_2 → iv v2_1 2 29 → atp f_2 u0 (fd 3 (.int wh)) → W p l e rm_s_X3_smallesta s m args below meth c H locs 0 0 Q (F0 m 2 ls []) := by
    intro n2
    induction n2 with
    | zero => intro ls f_2 H locs v2_1 hm2 hl h t_2 o_2 iv2_1 k2_u0_3; exact absurd hm2 (by omega)
    | succ n2 ih2 =>
      intro ls f_2 H locs v2_1 hm2 hl h t_2 o_2 iv2_1 k2_u0_3
      have L10 : ∀ (n10 : Nat) (ls : Array Slot) (f_10 : hM) (H : Heap) (locs : List Loc) (v10_2 : Int32), 5 - v10_2.toInt < (n10 : Int) → lv_has ls 5 [(0, .ref u0), (1, .int v2_1), (2, .int v10_2)] → hw D b0 s.heap f_10 H locs → TI G 9 τ f_10 → Fr [40, 41, 42, 48, 40002, 40003, 40004] τ f f_10 → iv v2_1 2 28 → iv v10_2 1 5 → atp f_10 u0 (fd 3 (.int wh)) → W p l e rm_s_X3_smallesta s m args below meth c H locs 0 0 Q (F0 m 10 ls []) := by
        intro n10
        induction n10 with
        | zero => intro ls f_10 H locs v10_2 hm10 hl h t_10 o_10 jv10_1 iv10_2 k10_u0_3; exact absurd hm10 (by omega)
        | succ n10 ih10 =>
          intro ls f_10 H locs v10_2 hm10 hl h t_10 o_10 jv10_1 iv10_2 k10_u0_3
          refine lv_iload_n hx hb dX3_smallest_10 rfl (lv_at hl 2 rfl) ?_
          refine lv_iconst (v := 4) hx hb dX3_smallest_11 (by decide) ?_
          refine lv_icmp_gt (tgt := 87) hx hb dX3_smallest_12 (by decide) (fun c1 => ?_) (fun c1 => ?_)
          · have c2 : 4 < v10_2.toInt := Int32.lt_iff_toInt_lt.mp c1
            have i3 : iv v10_2 5 5 := iv_Lr c2 (iv_k (x := 4) (k := 4) rfl) iv10_2 (by decide)
            refine i_inc hx hb dX3_smallest_87 hl (k := 1) rfl jv10_1 rfl (lo := 3) (hi := 29) (by decide) (by decide) (lv' := fun v => [(1, .int v), (0, .ref u0), (2, .int v10_2)]) (fun _ => rfl) (fun z6 ls ez6 mz6 iz6 hl => ?_)
            refine lv_goto (tgt := 2) hx hb dX3_smallest_90 (by decide) ?_
            exact ih2 ls f_10 H locs z6 (show 29 - z6.toInt < _ by omega) (lv_cons hl 1 rfl (lv_cons hl 0 rfl (lv_nil hl))) h t_10 o_10 (iv_w iz6 (by decide)) k10_u0_3
          · have c4 : v10_2.toInt ≤ 4 := Int32.le_iff_toInt_le.mp (iv_nlt c1)
            have i5 : iv v10_2 1 4 := iv_El c4 iv10_2 (iv_k (x := 4) (k := 4) rfl) (by decide)
            refine lv_iload_n hx hb dX3_smallest_15 rfl (lv_at hl 1 rfl) ?_
            refine lv_iload_n hx hb dX3_smallest_16 rfl (lv_at hl 2 rfl) ?_
            refine lv_iconst (v := 1) hx hb dX3_smallest_17 (by decide) ?_
            refine i_addk hx hb dX3_smallest_18 i5 (k := 1) rfl (lo := 2) (hi := 5) (by decide) (fun z7 ez7 mz7 iz7 => ?_)
            refine lv_idiv hx hb dX3_smallest_19 (iv_nz iz7 (by decide)) (i_top (iv_divp (iv_w jv10_1 (by decide) : iv _ 0 28) iz7 (by decide)) (fun z8 ez8 iz8 => ?_))
            refine lv_iconst (v := 1) hx hb dX3_smallest_20 (by decide) ?_
            refine i_subk hx hb dX3_smallest_21 iz8 (k := 1) rfl (lo := (-1)) (hi := 27) (by decide) (fun z9 ez9 mz9 iz9 => ?_)
            refine lv_istore_n (lv' := [(3, .int z9), (0, .ref u0), (1, .int v2_1), (2, .int v10_2)]) hx hb dX3_smallest_22 rfl hl (by decide) rfl (fun ls hl => ?_)
            refine lv_iload_n hx hb dX3_smallest_23 rfl (lv_at hl 2 rfl) ?_
            refine lv_iload_n hx hb dX3_smallest_24 rfl (lv_at hl 3 rfl) ?_
            refine lv_iconst (v := 1) hx hb dX3_smallest_25 (by decide) ?_
            refine i_addk hx hb dX3_smallest_26 i5 (k := 1) rfl (lo := 2) (hi := 5) (by decide) (fun z10 ez10 mz10 iz10 => ?_)
            refine lv_irem hx hb dX3_smallest_27 (iv_nz iz10 (by decide)) (i_topm (P := fun q_ => q_ < Int32.toInt z10 ∧ q_ ≤ Int32.toInt v2_1) (iv_remm (iv_w jv10_1 (by decide) : iv _ 0 28) iz10 (by decide)) (fun z11 ez11 mz11 iz11 => ?_))
            refine lv_if_ne (tgt := 47) hx hb dX3_smallest_28 (by decide) (fun c12 => ?_) (fun c12 => ?_)
            · have c13 : z11.toInt ≠ 0 := fun z_ => c12 (Int32.toInt_inj.mp z_)
              have i14 : iv z11 1 4 := iv_Nl c13 iz11 (by decide)
              refine lv_iconst (v := 0) hx hb dX3_smallest_47 (by decide) ?_
              refine lv_istore (lv' := [(4, .int 0), (3, .int z9), (0, .ref u0), (1, .int v2_1), (2, .int v10_2)]) hx hb dX3_smallest_48 hl (by decide) rfl (fun ls hl => ?_)
              refine lv_iload hx hb dX3_smallest_50 (lv_at hl 0 rfl) ?_
              refine lv_if_eq (tgt := 81) hx hb dX3_smallest_52 (by decide) (fun c17 => ?_) (fun c17 => ?_)
              · refine i_inc hx hb dX3_smallest_81 hl (k := 4) rfl i5 rfl (lo := 2) (hi := 5) (by decide) (by decide) (lv' := fun v => [(2, .int v), (4, .int 0), (3, .int z9), (0, .ref u0), (1, .int v2_1)]) (fun _ => rfl) (fun z20 ls ez20 mz20 iz20 hl => ?_)
                refine lv_goto (tgt := 10) hx hb dX3_smallest_84 (by decide) ?_
                exact ih10 ls f_10 H locs z20 (show 5 - z20.toInt < _ by omega) (lv_cons hl 3 rfl (lv_cons hl 4 rfl (lv_cons hl 0 rfl (lv_nil hl)))) h t_10 o_10 jv10_1 (iv_w iz20 (by decide)) k10_u0_3
              · exact absurd c17 (by decide)
            · have c15 : z11.toInt = 0 := congrArg Int32.toInt c12
              have i16 : iv z11 0 0 := iv_Q c15 iz11 (iv_k (x := 0) (k := 0) rfl) (by decide)
              refine lv_aload_n hx hb dX3_smallest_31 rfl (lv_at hl 1 rfl) ?_
              refine t_getfd C h t_10 hu0 (by decide) wf_45 (v := .int wh) k10_u0_3 fl_X3_30 dX3_smallest_32 ?_
              refine lv_iload_n hx hb dX3_smallest_35 rfl (lv_at hl 3 rfl) ?_
              refine lv_iload_n hx hb dX3_smallest_36 rfl (lv_at hl 0 rfl) ?_
              refine k_i (r_S C h hl (As := [.int wh, .int v10_2, .int z9]) (rest := []) (s_X3_isShapea l D G b0 τ f_10 t_10 wh hwh v10_2 (iv_w i5 (by decide)) z9 (iv_w iz9 (by decide))) mk_X3_isShape w_1095 w_1031 w_1032 ⟨Nat.le_of_ble_eq_true rfl, Nat.le_of_ble_eq_true rfl⟩ rfl (Nat.le_of_ble_eq_true rfl) ⟨Nat.le_of_ble_eq_true rfl, Nat.le_of_ble_eq_true rfl⟩ rfl dX3_smallest_37) h (fun r21 f22 H locs p23 h => ?_)
              obtain ⟨ir21, tf22, ogf22, cnr21⟩ := p23
              have egf22 := Fr.nil2 ogf22
              subst egf22
              refine lv_if_eq (tgt := 47) hx hb dX3_smallest_40 (by decide) (fun c24 => ?_) (fun c24 => ?_)
              · have c25 : r21.toInt = 0 := congrArg Int32.toInt c24
                have i26 : iv r21 0 0 := iv_Q c25 ir21 (iv_k (x := 0) (k := 0) rfl) (by decide)
                refine lv_iconst (v := 0) hx hb dX3_smallest_47 (by decide) ?_
                refine lv_istore (lv' := [(4, .int 0), (3, .int z9), (0, .ref u0), (1, .int v2_1), (2, .int v10_2)]) hx hb dX3_smallest_48 hl (by decide) rfl (fun ls hl => ?_)
                refine lv_iload hx hb dX3_smallest_50 (lv_at hl 0 rfl) ?_
                refine lv_if_eq (tgt := 81) hx hb dX3_smallest_52 (by decide) (fun c31 => ?_) (fun c31 => ?_)
                · refine i_inc hx hb dX3_smallest_81 hl (k := 4) rfl i5 rfl (lo := 2) (hi := 5) (by decide) (by decide) (lv' := fun v => [(2, .int v), (4, .int 0), (3, .int z9), (0, .ref u0), (1, .int v2_1)]) (fun _ => rfl) (fun z34 ls ez34 mz34 iz34 hl => ?_)
                  refine lv_goto (tgt := 10) hx hb dX3_smallest_84 (by decide) ?_
                  exact ih10 ls f_10 H locs z34 (show 5 - z34.toInt < _ by omega) (lv_cons hl 3 rfl (lv_cons hl 4 rfl (lv_cons hl 0 rfl (lv_nil hl)))) h t_10 o_10 jv10_1 (iv_w iz34 (by decide)) k10_u0_3
                · exact absurd c31 (by decide)
              · have c27 : r21.toInt ≠ 0 := fun z_ => c24 (Int32.toInt_inj.mp z_)
                have i28 : iv r21 1 1 := iv_Nl c27 ir21 (by decide)
                obtain ⟨i29, i30⟩ := cnr21 c27
                refine lv_iconst (v := 1) hx hb dX3_smallest_43 (by decide) ?_
                refine lv_goto (tgt := 48) hx hb dX3_smallest_44 (by decide) ?_
                refine lv_istore (lv' := [(4, .int 1), (3, .int z9), (0, .ref u0), (1, .int v2_1), (2, .int v10_2)]) hx hb dX3_smallest_48 hl (by decide) rfl (fun ls hl => ?_)
                refine lv_iload hx hb dX3_smallest_50 (lv_at hl 0 rfl) ?_
                refine lv_if_eq (tgt := 81) hx hb dX3_smallest_52 (by decide) (fun c35 => ?_) (fun c35 => ?_)
                · exact absurd c35 (by decide)
                · refine lv_aload_n hx hb dX3_smallest_55 rfl (lv_at hl 2 rfl) ?_
                  refine lv_iload_n hx hb dX3_smallest_56 rfl (lv_at hl 4 rfl) ?_
                  refine lv_iload_n hx hb dX3_smallest_57 rfl (lv_at hl 1 rfl) ?_
                  obtain ⟨_, r38⟩ := t_rec t_10 hu0 (by decide) wf_45
                  refine k_i (r_V C h hl (As := [.int v10_2, .int z9]) (rest := []) (s_X3_solvea l D G b0 τ f_10 t_10 u0 hu0 v10_2 i5 z9 i30 wh hwh k10_u0_3) r38 (Cn := RX3) (T := TX3) (N := 4) rfl rfl mk_X3_solve w_1048 w_1050 w_28 w_1051 ⟨Nat.le_of_ble_eq_true rfl, Nat.le_of_ble_eq_true rfl⟩ rfl (Nat.le_of_ble_eq_true rfl) ⟨Nat.le_of_ble_eq_true rfl, Nat.le_of_ble_eq_true rfl⟩ rfl dX3_smallest_58) h (fun r39 f40 H locs p41 h => ?_)
                  obtain ⟨ir39, tf40, ogf40⟩ := p41
                  have of40 : Fr [40, 41, 42, 48, 40002, 40003, 40004] τ f f40 := Fr.tr o_10 ogf40 (by decide) (by decide)
                  have k42 := atp.fr k10_u0_3 ogf40 hu0 (by decide)
                  refine lv_if_eq (tgt := 81) hx hb dX3_smallest_61 (by decide) (fun c43 => ?_) (fun c43 => ?_)
                  · have c44 : r39.toInt = 0 := congrArg Int32.toInt c43
                    have i45 : iv r39 0 0 := iv_Q c44 ir39 (iv_k (x := 0) (k := 0) rfl) (by decide)
                    refine i_inc hx hb dX3_smallest_81 hl (k := 4) rfl i5 rfl (lo := 2) (hi := 5) (by decide) (by decide) (lv' := fun v => [(2, .int v), (4, .int 1), (3, .int z9), (0, .ref u0), (1, .int v2_1)]) (fun _ => rfl) (fun z48 ls ez48 mz48 iz48 hl => ?_)
                    refine lv_goto (tgt := 10) hx hb dX3_smallest_84 (by decide) ?_
                    exact ih10 ls f40 H locs z48 (show 5 - z48.toInt < _ by omega) (lv_cons hl 3 rfl (lv_cons hl 4 rfl (lv_cons hl 0 rfl (lv_nil hl)))) h tf40 of40 jv10_1 (iv_w iz48 (by decide)) k42
                  · have c46 : r39.toInt ≠ 0 := fun z_ => c43 (Int32.toInt_inj.mp z_)
                    have i47 : iv r39 1 1 := iv_Nl c46 ir39 (by decide)
                    refine lv_aload_n hx hb dX3_smallest_64 rfl (lv_at hl 2 rfl) ?_
                    refine lv_iload_n hx hb dX3_smallest_65 rfl (lv_at hl 4 rfl) ?_
                    refine lv_iload_n hx hb dX3_smallest_66 rfl (lv_at hl 1 rfl) ?_
                    obtain ⟨_, r49⟩ := t_rec tf40 hu0 (by decide) wf_45
                    refine k_i (r_V C h hl (As := [.int v10_2, .int z9]) (rest := []) (s_X3_firstMissa l D G b0 τ f40 tf40 u0 hu0 v10_2 i5 z9 i30 wh hwh k42) r49 (Cn := RX3) (T := TX3) (N := 4) rfl rfl mk_X3_firstMiss w_1075 w_1077 w_30 w_1078 ⟨Nat.le_of_ble_eq_true rfl, Nat.le_of_ble_eq_true rfl⟩ rfl (Nat.le_of_ble_eq_true rfl) ⟨Nat.le_of_ble_eq_true rfl, Nat.le_of_ble_eq_true rfl⟩ rfl dX3_smallest_67) h (fun r50 f51 H locs p52 h => ?_)
                    obtain ⟨ir50, tf51, ogf51⟩ := p52
                    have egf51 := Fr.nil2 ogf51
                    subst egf51
                    refine lv_iconst (v := -1) hx hb dX3_smallest_70 (by decide) ?_
                    refine lv_icmp_ne (tgt := 81) hx hb dX3_smallest_71 (by decide) (fun c53 => ?_) (fun c53 => ?_)
                    · have c54 : r50.toInt ≠ (-1) := fun z_ => c53 (Int32.toInt_inj.mp z_)
                      have i55 : iv r50 0 59 := iv_Nl c54 ir50 (by decide)
                      refine i_inc hx hb dX3_smallest_81 hl (k := 4) rfl i5 rfl (lo := 2) (hi := 5) (by decide) (by decide) (lv' := fun v => [(2, .int v), (4, .int 1), (3, .int z9), (0, .ref u0), (1, .int v2_1)]) (fun _ => rfl) (fun z58 ls ez58 mz58 iz58 hl => ?_)
                      refine lv_goto (tgt := 10) hx hb dX3_smallest_84 (by decide) ?_
                      exact ih10 ls f40 H locs z58 (show 5 - z58.toInt < _ by omega) (lv_cons hl 3 rfl (lv_cons hl 4 rfl (lv_cons hl 0 rfl (lv_nil hl)))) h tf40 of40 jv10_1 (iv_w iz58 (by decide)) k42
                    · have c56 : r50.toInt = (-1) := congrArg Int32.toInt c53
                      have i57 : iv r50 (-1) (-1) := iv_Q c56 ir50 (iv_k (x := (-1)) (k := (-1)) rfl) (by decide)
                      refine lv_bipush (v := 10) hx hb dX3_smallest_74 (by decide) ?_
                      refine lv_iload_n hx hb dX3_smallest_76 rfl (lv_at hl 4 rfl) ?_
                      refine i_cmul hx hb dX3_smallest_77 (k := 10) rfl i5 (lo := 10) (hi := 40) (by decide) (fun z59 ez59 mz59 iz59 => ?_)
                      refine lv_iload_n hx hb dX3_smallest_78 rfl (lv_at hl 1 rfl) ?_
                      refine i_add hx hb dX3_smallest_79 iz59 i30 (lo := 10) (hi := 44) (by decide) (fun z60 ez60 mz60 iz60 => ?_)
                      exact u_iret C h hr hQ (⟨(iv_w iz60 (by decide)), tf40, of40⟩) (Nat.le_of_ble_eq_true rfl) (Nat.le_of_ble_eq_true rfl) dX3_smallest_80
      refine lv_iload_n hx hb dX3_smallest_2 rfl (lv_at hl 1 rfl) ?_
      refine lv_bipush (v := 28) hx hb dX3_smallest_3 (by decide) ?_
      refine lv_icmp_gt (tgt := 93) hx hb dX3_smallest_5 (by decide) (fun c61 => ?_) (fun c61 => ?_)
      · have c62 : 28 < v2_1.toInt := Int32.lt_iff_toInt_lt.mp c61
        have i63 : iv v2_1 29 29 := iv_Lr c62 (iv_k (x := 28) (k := 28) rfl) iv2_1 (by decide)
        refine lv_iconst (v := -1) hx hb dX3_smallest_93 (by decide) ?_
        exact u_iret C h hr hQ (⟨⟨by decide, by decide⟩, t_2, o_2⟩) (Nat.le_of_ble_eq_true rfl) (Nat.le_of_ble_eq_true rfl) dX3_smallest_94
      · have c64 : v2_1.toInt ≤ 28 := Int32.le_iff_toInt_le.mp (iv_nlt c61)
        have i65 : iv v2_1 2 28 := iv_El c64 iv2_1 (iv_k (x := 28) (k := 28) rfl) (by decide)
        refine lv_iconst (v := 1) hx hb dX3_smallest_8 (by decide) ?_
        refine lv_istore_n (lv' := [(2, .int 1), (0, .ref u0), (1, .int v2_1)]) hx hb dX3_smallest_9 rfl hl (by decide) rfl (fun ls hl => ?_)
        exact L10 5 ls f_2 H locs 1 (by decide) (lv_cons hl 1 rfl (lv_cons hl 2 rfl (lv_cons hl 0 rfl (lv_nil hl)))) h t_2 o_2 i65 ⟨by decide, by decide⟩ k2_u0_3
  refine lv_iconst (v := 2) hx hb dX3_smallest_0 (by decide) ?_
  refine lv_istore_n (lv' := [(1, .int 2), (0, .ref u0)]) hx hb dX3_smallest_1 rfl hl (by decide) rfl (fun ls hl => ?_)
  exact L2 28 ls f s.heap [] 2 (by decide) (lv_cons hl 1 rfl (lv_cons hl 0 rfl (lv_nil hl))) h t o ⟨by decide, by decide⟩ k_u0_3
abbrev rm_s_X3_isShapeb : Room := { frames := 1, cells := 0, slots := 0, locals := 22 }
set_option maxRecDepth 100000 in
set_option maxHeartbeats 4000000 in
theorem s_X3_isShapeb (l : Launch) (D : va_G) (G : Nat → Nat) (b0 : Nat) (τ : Nat → Nat) (f : hM) (t : TI G 9 τ f) (u0 : Int32) (hu0 : iv u0 1 1) (u1 : Int32) (hu1 : iv u1 (-2147483648) 2147483647) (u2 : Int32) (hu2 : iv u2 (-2147483648) 2147483647) : mI l yX3_isShape cX3_isShape 3 (.boolean) rm_s_X3_isShapeb D G b0 f [.int u0, .int u1, .int u2] (fun r f1 => iv r 0 1 ∧ TI G 9 τ f1 ∧ Fr [] τ f f1 ∧ (r.toInt ≠ 0 → iv u1 1 3 ∧ iv u2 0 6)) := by
  refine met2 (own := RX3) (by decide) rfl (Nat.le_of_ble_eq_true rfl) ?_
  intro p e s m args below meth c ls Q hQ C hr hini hl h
  have hl : lv_has ls 3 [(0, .int u0), (1, .int u1), (2, .int u2)] := hl
  obtain ⟨hx, hb, hml, hown, hts, hE0, hlk⟩ := id C
  have o := Fr.rf [] τ f
  refine lv_iload_n hx hb dX3_isShape_0 rfl (lv_at hl 0 rfl) ?_
  refine lv_if_ne (tgt := 30) hx hb dX3_isShape_1 (by decide) (fun c1 => ?_) (fun c1 => ?_)
  · have c2 : u0.toInt ≠ 0 := fun z_ => c1 (Int32.toInt_inj.mp z_)
    refine lv_iload_n hx hb dX3_isShape_30 rfl (lv_at hl 1 rfl) ?_
    refine lv_iconst (v := 1) hx hb dX3_isShape_31 (by decide) ?_
    refine lv_iconst (v := 3) hx hb dX3_isShape_32 (by decide) ?_
    refine k_i (r_SN C h hl (host := "QuarterWalks") (As := [.int u1, .int 1, .int 3]) (rest := []) (s_X10_within l D G b0 τ f t u1 hu1 1 (iv_w (iv_k (x := 1) (k := 1) rfl) (by decide)) 3 (iv_w (iv_k (x := 3) (k := 3) rfl) (by decide))) mk_X10_within (by decide) w_426 w_427 ⟨Nat.le_of_ble_eq_true rfl, Nat.le_of_ble_eq_true rfl⟩ rfl (Nat.le_of_ble_eq_true rfl) ⟨Nat.le_of_ble_eq_true rfl, Nat.le_of_ble_eq_true rfl⟩ rfl dX3_isShape_33) h (fun r4 f5 H locs p6 h => ?_)
    have n7 : (1 : Int32).toInt = 1 := rfl
    have n8 : (3 : Int32).toInt = 3 := rfl
    obtain ⟨ir4, tf5, ogf5, cnr4, czr4⟩ := p6
    have egf5 := Fr.nil2 ogf5
    subst egf5
    refine lv_if_eq (tgt := 53) hx hb dX3_isShape_36 (by decide) (fun c9 => ?_) (fun c9 => ?_)
    · have c10 : r4.toInt = 0 := congrArg Int32.toInt c9
      have i11 : iv r4 0 0 := iv_Q c10 ir4 (iv_k (x := 0) (k := 0) rfl) (by decide)
      have i12 := czr4 c10
      refine lv_iconst (v := 0) hx hb dX3_isShape_53 (by decide) ?_
      exact u_zret C h hr hQ ⟨by decide, by decide⟩ (⟨⟨by decide, by decide⟩, t, o, (fun h_ => absurd h_ (by decide))⟩) (Nat.le_of_ble_eq_true rfl) (Nat.le_of_ble_eq_true rfl) dX3_isShape_54
    · have c13 : r4.toInt ≠ 0 := fun z_ => c9 (Int32.toInt_inj.mp z_)
      have i14 : iv r4 1 1 := iv_Nl c13 ir4 (by decide)
      obtain ⟨i15, i16⟩ := cnr4 c13
      have i17 : iv u1 1 3 := ⟨by omega, by omega⟩
      refine lv_iload_n hx hb dX3_isShape_39 rfl (lv_at hl 2 rfl) ?_
      refine lv_iconst (v := 0) hx hb dX3_isShape_40 (by decide) ?_
      refine lv_bipush (v := 6) hx hb dX3_isShape_41 (by decide) ?_
      refine k_i (r_SN C h hl (host := "QuarterWalks") (As := [.int u2, .int 0, .int 6]) (rest := []) (s_X10_within l D G b0 τ f t u2 hu2 0 (iv_w (iv_k (x := 0) (k := 0) rfl) (by decide)) 6 (iv_w (iv_k (x := 6) (k := 6) rfl) (by decide))) mk_X10_within (by decide) w_426 w_427 ⟨Nat.le_of_ble_eq_true rfl, Nat.le_of_ble_eq_true rfl⟩ rfl (Nat.le_of_ble_eq_true rfl) ⟨Nat.le_of_ble_eq_true rfl, Nat.le_of_ble_eq_true rfl⟩ rfl dX3_isShape_43) h (fun r18 f19 H locs p20 h => ?_)
      have n21 : (0 : Int32).toInt = 0 := rfl
      have n22 : (6 : Int32).toInt = 6 := rfl
      obtain ⟨ir18, tf19, ogf19, cnr18, czr18⟩ := p20
      have egf19 := Fr.nil2 ogf19
      subst egf19
      refine lv_if_eq (tgt := 53) hx hb dX3_isShape_46 (by decide) (fun c23 => ?_) (fun c23 => ?_)
      · have c24 : r18.toInt = 0 := congrArg Int32.toInt c23
        have i25 : iv r18 0 0 := iv_Q c24 ir18 (iv_k (x := 0) (k := 0) rfl) (by decide)
        have i26 := czr18 c24
        refine lv_iconst (v := 0) hx hb dX3_isShape_53 (by decide) ?_
        exact u_zret C h hr hQ ⟨by decide, by decide⟩ (⟨⟨by decide, by decide⟩, t, o, (fun h_ => absurd h_ (by decide))⟩) (Nat.le_of_ble_eq_true rfl) (Nat.le_of_ble_eq_true rfl) dX3_isShape_54
      · have c27 : r18.toInt ≠ 0 := fun z_ => c23 (Int32.toInt_inj.mp z_)
        have i28 : iv r18 1 1 := iv_Nl c27 ir18 (by decide)
        obtain ⟨i29, i30⟩ := cnr18 c27
        have i31 : iv u2 0 6 := ⟨by omega, by omega⟩
        refine lv_iconst (v := 1) hx hb dX3_isShape_49 (by decide) ?_
        refine lv_goto (tgt := 54) hx hb dX3_isShape_50 (by decide) ?_
        exact u_zret C h hr hQ ⟨by decide, by decide⟩ (⟨⟨by decide, by decide⟩, t, o, (fun _ => ⟨i17, i31⟩)⟩) (Nat.le_of_ble_eq_true rfl) (Nat.le_of_ble_eq_true rfl) dX3_isShape_54
  · have c3 : u0.toInt = 0 := congrArg Int32.toInt c1
    exact (iv_cq_ c3 hu0 (iv_k (x := 0) (k := 0) rfl) (by decide)).elim
abbrev rm_s_X3_loadb : Room := { frames := 2, cells := 0, slots := 0, locals := 49 }
set_option maxRecDepth 100000 in
set_option maxHeartbeats 4000000 in
theorem s_X3_loadb (l : Launch) (D : va_G) (G : Nat → Nat) (b0 : Nat) (τ : Nat → Nat) (f : hM) (t : TI G 9 τ f) (u0 : Nat) (hu0 : τ u0 = 45) (u1 : Nat) (hu1 : τ u1 = 3) (u2 : Int32) (hu2 : iv u2 0 4) (u3 : Int32) (hu3 : iv u3 1 1) : mV l yX3_load cX3_load 5 rm_s_X3_loadb D G b0 f [.ref u0, .ref u1, .int u2, .int u3] (fun f1 => TI G 9 τ f1 ∧ Fr [45, 47, 45004] τ f f1 ∧ (∃ wz : Int32, atp f1 u0 (fd 3 (.int wz)) ∧ iv wz 1 1 ∧ wz.toInt = u3.toInt)) := by
  refine met2 (own := RX3) (by decide) rfl (Nat.le_of_ble_eq_true rfl) ?_
  intro p e s m args below meth c ls Q hQ C hr hini hl h
  have hl : lv_has ls 5 [(0, .ref u0), (1, .ref u1), (2, .int u2), (3, .int u3)] := hl
  obtain ⟨hx, hb, hml, hown, hts, hE0, hlk⟩ := id C
  have o := Fr.rf [45, 47, 45004] τ f
  have L27 : ∀ (n27 : Nat) (ls : Array Slot) (f_27 : hM) (H : Heap) (locs : List Loc) (v27_4 : Int32) (g27_u0_3 : Int32), 61 - v27_4.toInt < (n27 : Int) → lv_has ls 5 [(0, .ref u0), (1, .ref u1), (2, .int u2), (4, .int v27_4)] → hw D b0 s.heap f_27 H locs → TI G 9 τ f_27 → Fr [45, 47, 45004] τ f f_27 → iv v27_4 0 61 → iv g27_u0_3 1 1 → atp f_27 u0 (fd 3 (.int g27_u0_3)) → W p l e rm_s_X3_loadb s m args below meth c H locs 0 0 Q (F0 m 27 ls []) := by
    intro n27
    induction n27 with
    | zero => intro ls f_27 H locs v27_4 g27_u0_3 hm27 hl h t_27 o_27 iv27_4 ig27_u0_3 k27_u0_3; exact absurd hm27 (by omega)
    | succ n27 ih27 =>
      intro ls f_27 H locs v27_4 g27_u0_3 hm27 hl h t_27 o_27 iv27_4 ig27_u0_3 k27_u0_3
      have L70 : ∀ (ls : Array Slot) (f_70 : hM) (H : Heap) (locs : List Loc), lv_has ls 5 [(0, .ref u0)] → hw D b0 s.heap f_70 H locs → TI G 9 τ f_70 → Fr [45, 47, 45004] τ f f_70 → atp f_70 u0 (fd 3 (.int g27_u0_3)) → W p l e rm_s_X3_loadb s m args below meth c H locs 0 0 Q (F0 m 70 ls []) := by
        intro ls f_70 H locs hl h t_70 o_70 k70_u0_3
        refine lv_aload_n hx hb dX3_load_70 rfl (lv_at hl 0 rfl) ?_
        refine t_getfd C h t_70 hu0 (by decide) wf_45 (v := .int g27_u0_3) k70_u0_3 fl_X3_30 dX3_load_71 ?_
        refine lv_iconst (v := 1) hx hb dX3_load_74 (by decide) ?_
        refine lv_icmp_ne (tgt := 120) hx hb dX3_load_75 (by decide) (fun c1 => ?_) (fun c1 => ?_)
        · have c2 : g27_u0_3.toInt ≠ 1 := fun z_ => c1 (Int32.toInt_inj.mp z_)
          exact (iv_cn_ c2 ig27_u0_3 (iv_k (x := 1) (k := 1) rfl) (by decide)).elim
        · have c3 : g27_u0_3.toInt = 1 := congrArg Int32.toInt c1
          refine lv_aload_n hx hb dX3_load_78 rfl (lv_at hl 0 rfl) ?_
          refine t_getr (tq := 46) C h t_70 hu0 (by decide) wf_45 rfl fl_X3_17 dX3_load_79 (fun q4 tq4 => ?_)
          refine lv_iconst (v := 1) hx hb dX3_load_82 (by decide) ?_
          refine t_aaldA C h t_70 (g := 5) rfl tq4 (by decide) wf_46 (by unfold vp_in; decide) dX3_load_83 (fun q5 tq5 => ?_)
          refine lv_aload_n hx hb dX3_load_84 rfl (lv_at hl 0 rfl) ?_
          refine t_getr (tq := 46) C h t_70 hu0 (by decide) wf_45 rfl fl_X3_17 dX3_load_85 (fun q6 tq6 => ?_)
          refine lv_iconst (v := 1) hx hb dX3_load_88 (by decide) ?_
          refine t_aaldA C h t_70 (g := 5) rfl tq6 (by decide) wf_46 (by unfold vp_in; decide) dX3_load_89 (fun q7 tq7 => ?_)
          refine lv_aload_n hx hb dX3_load_90 rfl (lv_at hl 0 rfl) ?_
          refine t_getr (tq := 46) C h t_70 hu0 (by decide) wf_45 rfl fl_X3_17 dX3_load_91 (fun q8 tq8 => ?_)
          refine lv_iconst (v := 2) hx hb dX3_load_94 (by decide) ?_
          refine t_aaldA C h t_70 (g := 5) rfl tq8 (by decide) wf_46 (by unfold vp_in; decide) dX3_load_95 (fun q9 tq9 => ?_)
          refine k_v (r_S C h hl (As := [.ref q5, .ref q7, .ref q9]) (rest := []) (s_X3_multiply l D G b0 τ f_70 t_70 q5 tq5 q7 tq7 q9 tq9) mk_X3_multiply w_1039 w_1040 w_1041 ⟨Nat.le_of_ble_eq_true rfl, Nat.le_of_ble_eq_true rfl⟩ rfl (Nat.le_of_ble_eq_true rfl) ⟨Nat.le_of_ble_eq_true rfl, Nat.le_of_ble_eq_true rfl⟩ rfl dX3_load_96) h (fun f11 H locs p12 h => ?_)
          obtain ⟨tf11, ogf11⟩ := p12
          have of11 : Fr [45, 47, 45004] τ f f11 := Fr.tr o_70 ogf11 (by decide) (by decide)
          have k13 := atp.fr k70_u0_3 ogf11 hu0 (by decide)
          refine lv_aload_n hx hb dX3_load_99 rfl (lv_at hl 0 rfl) ?_
          refine t_getr (tq := 46) C h tf11 hu0 (by decide) wf_45 rfl fl_X3_17 dX3_load_100 (fun q14 tq14 => ?_)
          refine lv_iconst (v := 2) hx hb dX3_load_103 (by decide) ?_
          refine t_aaldA C h tf11 (g := 5) rfl tq14 (by decide) wf_46 (by unfold vp_in; decide) dX3_load_104 (fun q15 tq15 => ?_)
          refine lv_aload_n hx hb dX3_load_105 rfl (lv_at hl 0 rfl) ?_
          refine t_getr (tq := 46) C h tf11 hu0 (by decide) wf_45 rfl fl_X3_17 dX3_load_106 (fun q16 tq16 => ?_)
          refine lv_iconst (v := 1) hx hb dX3_load_109 (by decide) ?_
          refine t_aaldA C h tf11 (g := 5) rfl tq16 (by decide) wf_46 (by unfold vp_in; decide) dX3_load_110 (fun q17 tq17 => ?_)
          refine lv_aload_n hx hb dX3_load_111 rfl (lv_at hl 0 rfl) ?_
          refine t_getr (tq := 46) C h tf11 hu0 (by decide) wf_45 rfl fl_X3_17 dX3_load_112 (fun q18 tq18 => ?_)
          refine lv_iconst (v := 3) hx hb dX3_load_115 (by decide) ?_
          refine t_aaldA C h tf11 (g := 5) rfl tq18 (by decide) wf_46 (by unfold vp_in; decide) dX3_load_116 (fun q19 tq19 => ?_)
          refine k_v (r_S C h hl (As := [.ref q15, .ref q17, .ref q19]) (rest := []) (s_X3_multiply l D G b0 τ f11 tf11 q15 tq15 q17 tq17 q19 tq19) mk_X3_multiply w_1039 w_1040 w_1041 ⟨Nat.le_of_ble_eq_true rfl, Nat.le_of_ble_eq_true rfl⟩ rfl (Nat.le_of_ble_eq_true rfl) ⟨Nat.le_of_ble_eq_true rfl, Nat.le_of_ble_eq_true rfl⟩ rfl dX3_load_117) h (fun f21 H locs p22 h => ?_)
          obtain ⟨tf21, ogf21⟩ := p22
          have of21 : Fr [45, 47, 45004] τ f f21 := Fr.tr of11 ogf21 (by decide) (by decide)
          have k23 := atp.fr k13 ogf21 hu0 (by decide)
          exact u_vret C h hr hQ (⟨tf21, of21, ⟨g27_u0_3, k23, ig27_u0_3, (by omega)⟩⟩) (Nat.le_of_ble_eq_true rfl) (Nat.le_of_ble_eq_true rfl) dX3_load_120
      refine lv_iload hx hb dX3_load_27 (lv_at hl 3 rfl) ?_
      refine lv_bipush (v := 61) hx hb dX3_load_29 (by decide) ?_
      refine lv_icmp_ge (tgt := 70) hx hb dX3_load_31 (by decide) (fun c24 => ?_) (fun c24 => ?_)
      · have c25 : 61 ≤ v27_4.toInt := Int32.le_iff_toInt_le.mp c24
        have i26 : iv v27_4 61 61 := iv_Er c25 (iv_k (x := 61) (k := 61) rfl) iv27_4 (by decide)
        exact L70 ls f_27 H locs (lv_cons hl 0 rfl (lv_nil hl)) h t_27 o_27 k27_u0_3
      · have c27 : v27_4.toInt < 61 := Int32.lt_iff_toInt_lt.mp (iv_nle c24)
        have i28 : iv v27_4 0 60 := iv_Ll c27 iv27_4 (iv_k (x := 61) (k := 61) rfl) (by decide)
        refine lv_iload_n hx hb dX3_load_34 rfl (lv_at hl 2 rfl) ?_
        refine lv_bipush (v := 61) hx hb dX3_load_35 (by decide) ?_
        refine i_mulc hx hb dX3_load_37 hu2 (k := 61) rfl (lo := 0) (hi := 244) (by decide) (fun z29 ez29 mz29 iz29 => ?_)
        refine lv_iload hx hb dX3_load_38 (lv_at hl 3 rfl) ?_
        refine i_add hx hb dX3_load_40 iz29 i28 (lo := 0) (hi := 304) (by decide) (fun z30 ez30 mz30 iz30 => ?_)
        refine lv_aload_n hx hb dX3_load_41 rfl (lv_at hl 1 rfl) ?_
        refine t_alen C h t_27 hu1 (by decide) (n := 305) (v := 305) (fun e_ h_ => Or.inl ⟨_, _, wf_3 e_ h_⟩) rfl dX3_load_42 ?_
        refine lv_icmp_ge (tgt := 70) hx hb dX3_load_43 (by decide) (fun c31 => ?_) (fun c31 => ?_)
        · have c32 : 305 ≤ z30.toInt := Int32.le_iff_toInt_le.mp c31
          exact (iv_ce_ c32 (iv_k (x := 305) (k := 305) rfl) iz30 (by decide)).elim
        · have c33 : z30.toInt < 305 := Int32.lt_iff_toInt_lt.mp (iv_nle c31)
          refine lv_aload_n hx hb dX3_load_46 rfl (lv_at hl 0 rfl) ?_
          refine t_getr (tq := 46) C h t_27 hu0 (by decide) wf_45 rfl fl_X3_17 dX3_load_47 (fun q34 tq34 => ?_)
          refine lv_iconst (v := 1) hx hb dX3_load_50 (by decide) ?_
          refine t_aaldA C h t_27 (g := 5) rfl tq34 (by decide) wf_46 (by unfold vp_in; decide) dX3_load_51 (fun q35 tq35 => ?_)
          refine lv_iload hx hb dX3_load_52 (lv_at hl 3 rfl) ?_
          refine lv_aload_n hx hb dX3_load_54 rfl (lv_at hl 1 rfl) ?_
          refine lv_iload_n hx hb dX3_load_55 rfl (lv_at hl 2 rfl) ?_
          refine lv_bipush (v := 61) hx hb dX3_load_56 (by decide) ?_
          refine i_mulc hx hb dX3_load_58 hu2 (k := 61) rfl (lo := 0) (hi := 244) (by decide) (fun z36 ez36 mz36 iz36 => ?_)
          refine lv_iload hx hb dX3_load_59 (lv_at hl 3 rfl) ?_
          refine i_add hx hb dX3_load_61 iz36 i28 (lo := 0) (hi := 304) (by decide) (fun z37 ez37 mz37 iz37 => ?_)
          refine t_iald C h t_27 hu1 (by decide) wf_3 (iv_in iz37 (by decide)) dX3_load_62 (fun z38 iz38 => ?_)
          refine t_iast C h t_27 o_27 tq35 (by decide) (by decide) wf_47 fw_47 (iv_in i28 (by decide)) iz38 dX3_load_63 (fun f39 H locs h tf39 of39 hq => ?_)
          have k40 := atp.tg k27_u0_3 hq hu0 (by decide)
          refine i_inc hx hb dX3_load_64 hl (k := 3) rfl i28 rfl (lo := 1) (hi := 61) (by decide) (by decide) (lv' := fun v => [(4, .int v), (0, .ref u0), (1, .ref u1), (2, .int u2)]) (fun _ => rfl) (fun z41 ls ez41 mz41 iz41 hl => ?_)
          refine lv_goto (tgt := 27) hx hb dX3_load_67 (by decide) ?_
          exact ih27 ls f39 H locs z41 g27_u0_3 (show 61 - z41.toInt < _ by omega) (lv_cons hl 1 rfl (lv_cons hl 2 rfl (lv_cons hl 3 rfl (lv_cons hl 0 rfl (lv_nil hl))))) h tf39 of39 (iv_w iz41 (by decide)) ig27_u0_3 k40
  refine lv_aload_n hx hb dX3_load_0 rfl (lv_at hl 0 rfl) ?_
  refine lv_iload_n hx hb dX3_load_1 rfl (lv_at hl 3 rfl) ?_
  refine t_put C h t o hu0 (by decide) (by decide) (by decide) wf_45 fw_45 (k := 3) rfl flw_X3_30 (Or.inr ⟨_, _, _, rfl, rfl⟩) (v := .int u3) rfl rfl ⟨_, rfl, (iv_w hu3 (by decide))⟩ dX3_load_2 (fun f42 H locs h tf42 of42 hq ha_ hn_ hk_ => ?_)
  have k43 := ha_
  refine lv_aload_n hx hb dX3_load_5 rfl (lv_at hl 0 rfl) ?_
  refine t_getr (tq := 46) C h tf42 hu0 (by decide) wf_45 rfl fl_X3_17 dX3_load_6 (fun q44 tq44 => ?_)
  refine lv_iconst (v := 0) hx hb dX3_load_9 (by decide) ?_
  refine t_aaldA C h tf42 (g := 5) rfl tq44 (by decide) wf_46 (by unfold vp_in; decide) dX3_load_10 (fun q45 tq45 => ?_)
  refine lv_iconst (v := 0) hx hb dX3_load_11 (by decide) ?_
  refine k_v (r_S C h hl (As := [.ref q45, .int 0]) (rest := []) (s_J7_fill_53178t47 l D G b0 τ f42 tf42 q45 tq45 0 (iv_w (iv_k (x := 0) (k := 0) rfl) (by decide))) mk_J7_fill_53178 w_1038 w_437 w_438 ⟨Nat.le_of_ble_eq_true rfl, Nat.le_of_ble_eq_true rfl⟩ rfl (Nat.le_of_ble_eq_true rfl) ⟨Nat.le_of_ble_eq_true rfl, Nat.le_of_ble_eq_true rfl⟩ rfl dX3_load_12) h (fun f47 H locs p48 h => ?_)
  obtain ⟨tf47, ogf47⟩ := p48
  have of47 : Fr [45, 47, 45004] τ f f47 := Fr.tr of42 ogf47 (by decide) (by decide)
  have k49 := atp.fr k43 ogf47 hu0 (by decide)
  refine lv_aload_n hx hb dX3_load_15 rfl (lv_at hl 0 rfl) ?_
  refine t_getr (tq := 46) C h tf47 hu0 (by decide) wf_45 rfl fl_X3_17 dX3_load_16 (fun q50 tq50 => ?_)
  refine lv_iconst (v := 0) hx hb dX3_load_19 (by decide) ?_
  refine t_aaldA C h tf47 (g := 5) rfl tq50 (by decide) wf_46 (by unfold vp_in; decide) dX3_load_20 (fun q51 tq51 => ?_)
  refine lv_iconst (v := 0) hx hb dX3_load_21 (by decide) ?_
  refine lv_iconst (v := 1) hx hb dX3_load_22 (by decide) ?_
  refine t_iast C h tf47 of47 tq51 (by decide) (by decide) wf_47 fw_47 (by unfold vp_in; decide) ⟨by decide, by decide⟩ dX3_load_23 (fun f52 H locs h tf52 of52 hq => ?_)
  have k53 := atp.tg k49 hq hu0 (by decide)
  refine lv_iconst (v := 0) hx hb dX3_load_24 (by decide) ?_
  refine lv_istore (lv' := [(4, .int 0), (0, .ref u0), (1, .ref u1), (2, .int u2), (3, .int u3)]) hx hb dX3_load_25 hl (by decide) rfl (fun ls hl => ?_)
  exact L27 62 ls f52 H locs 0 u3 (by decide) (lv_cons hl 1 rfl (lv_cons hl 2 rfl (lv_cons hl 3 rfl (lv_cons hl 0 rfl (lv_nil hl))))) h tf52 of52 ⟨by decide, by decide⟩ hu3 k53
abbrev rm_s_X3_factorb : Room := { frames := 0, cells := 0, slots := 0, locals := 0 }
set_option maxRecDepth 100000 in
set_option maxHeartbeats 4000000 in
theorem s_X3_factorb (l : Launch) (D : va_G) (G : Nat → Nat) (b0 : Nat) (τ : Nat → Nat) (f : hM) (t : TI G 9 τ f) (u0 : Nat) (hu0 : τ u0 = 45) (u1 : Int32) (hu1 : iv u1 0 3) (u2 : Int32) (hu2 : iv u2 0 6) (u3 : Int32) (hu3 : iv u3 0 60) (wh : Int32) (hwh : iv wh 1 1) (k_u0_3 : atp f u0 (fd 3 (.int wh))) : mI l yX3_factor cX3_factor 7 (.int) rm_s_X3_factorb D G b0 f [.ref u0, .int u1, .int u2, .int u3] (fun r f1 => iv r (-2147483648) 2147483647 ∧ TI G 9 τ f1 ∧ Fr [] τ f f1) := by
  refine met2 (own := RX3) (by decide) rfl (Nat.le_of_ble_eq_true rfl) ?_
  intro p e s m args below meth c ls Q hQ C hr hini hl h
  have hl : lv_has ls 7 [(0, .ref u0), (1, .int u1), (2, .int u2), (3, .int u3)] := hl
  obtain ⟨hx, hb, hml, hown, hts, hE0, hlk⟩ := id C
  have o := Fr.rf [] τ f
  refine lv_aload_n hx hb dX3_factor_0 rfl (lv_at hl 0 rfl) ?_
  refine t_getfd C h t hu0 (by decide) wf_45 (v := .int wh) k_u0_3 fl_X3_30 dX3_factor_1 ?_
  refine lv_iconst (v := 1) hx hb dX3_factor_4 (by decide) ?_
  refine lv_icmp_ne (tgt := 28) hx hb dX3_factor_5 (by decide) (fun c1 => ?_) (fun c1 => ?_)
  · have c2 : wh.toInt ≠ 1 := fun z_ => c1 (Int32.toInt_inj.mp z_)
    exact (iv_cn_ c2 hwh (iv_k (x := 1) (k := 1) rfl) (by decide)).elim
  · have c3 : wh.toInt = 1 := congrArg Int32.toInt c1
    refine lv_iload_n hx hb dX3_factor_8 rfl (lv_at hl 3 rfl) ?_
    refine lv_iload_n hx hb dX3_factor_9 rfl (lv_at hl 2 rfl) ?_
    refine lv_icmp_ge (tgt := 17) hx hb dX3_factor_10 (by decide) (fun c4 => ?_) (fun c4 => ?_)
    · have c5 : u2.toInt ≤ u3.toInt := Int32.le_iff_toInt_le.mp c4
      refine lv_aload_n hx hb dX3_factor_17 rfl (lv_at hl 0 rfl) ?_
      refine t_getr (tq := 46) C h t hu0 (by decide) wf_45 rfl fl_X3_17 dX3_factor_18 (fun q9 tq9 => ?_)
      refine lv_iload_n hx hb dX3_factor_21 rfl (lv_at hl 1 rfl) ?_
      refine t_aaldA C h t (g := 5) rfl tq9 (by decide) wf_46 (iv_in hu1 (by decide)) dX3_factor_22 (fun q10 tq10 => ?_)
      refine lv_iload_n hx hb dX3_factor_23 rfl (lv_at hl 3 rfl) ?_
      refine lv_iload_n hx hb dX3_factor_24 rfl (lv_at hl 2 rfl) ?_
      refine i_sub hx hb dX3_factor_25 hu3 hu2 (lo := (-6)) (hi := 60) (by decide) (fun z11 ez11 mz11 iz11 => ?_)
      refine t_iald C h t tq10 (by decide) wf_47 (ix_o (by omega)) dX3_factor_26 (fun z12 iz12 => ?_)
      exact u_iret C h hr hQ (⟨iz12, t, o⟩) (Nat.le_of_ble_eq_true rfl) (Nat.le_of_ble_eq_true rfl) dX3_factor_27
    · have c6 : u3.toInt < u2.toInt := Int32.lt_iff_toInt_lt.mp (iv_nle c4)
      have i7 : iv u3 0 5 := iv_Ll c6 hu3 hu2 (by decide)
      have i8 : iv u2 1 6 := iv_Lr c6 hu3 hu2 (by decide)
      refine lv_iconst (v := 0) hx hb dX3_factor_13 (by decide) ?_
      refine lv_goto (tgt := 27) hx hb dX3_factor_14 (by decide) ?_
      exact u_iret C h hr hQ (⟨⟨by decide, by decide⟩, t, o⟩) (Nat.le_of_ble_eq_true rfl) (Nat.le_of_ble_eq_true rfl) dX3_factor_27
abbrev rm_s_X3_solveb : Room := { frames := 3, cells := 0, slots := 0, locals := 74 }
set_option maxRecDepth 100000 in
set_option maxHeartbeats 4000000 in
theorem s_X3_solveb (l : Launch) (D : va_G) (G : Nat → Nat) (b0 : Nat) (τ : Nat → Nat) (f : hM) (t : TI G 9 τ f) (u0 : Nat) (hu0 : τ u0 = 45) (u1 : Int32) (hu1 : iv u1 1 3) (u2 : Int32) (hu2 : iv u2 0 6) (wh : Int32) (hwh : iv wh 1 1) (k_u0_3 : atp f u0 (fd 3 (.int wh))) : mI l yX3_solve cX3_solve 6 (.boolean) rm_s_X3_solveb D G b0 f [.ref u0, .int u1, .int u2] (fun r f1 => iv r 0 1 ∧ TI G 9 τ f1 ∧ Fr [40, 41, 42, 48, 40002, 40003, 40004] τ f f1) := by
  refine met2 (own := RX3) (by decide) rfl (Nat.le_of_ble_eq_true rfl) ?_
  intro p e s m args below meth c ls Q hQ C hr hini hl h
  have hl : lv_has ls 6 [(0, .ref u0), (1, .int u1), (2, .int u2)] := hl
  obtain ⟨hx, hb, hml, hown, hts, hE0, hlk⟩ := id C
  have o := Fr.rf [40, 41, 42, 48, 40002, 40003, 40004] τ f
  have L22 : ∀ (n22 : Nat) (ls : Array Slot) (f_22 : hM) (H : Heap) (locs : List Loc) (v22_3 : Int32) (v22_4 : Int32), 32 - v22_4.toInt < (n22 : Int) → lv_has ls 6 [(0, .ref u0), (2, .int u2), (3, .int v22_3), (4, .int v22_4)] → hw D b0 s.heap f_22 H locs → TI G 9 τ f_22 → Fr [40, 41, 42, 48, 40002, 40003, 40004] τ f f_22 → iv v22_3 2 28 → iv v22_4 0 32 → atp f_22 u0 (fd 3 (.int wh)) → v22_3.toInt = (u1.toInt + 1) * (u2.toInt + 1) → W p l e rm_s_X3_solveb s m args below meth c H locs 0 0 Q (F0 m 22 ls []) := by
    intro n22
    induction n22 with
    | zero => intro ls f_22 H locs v22_3 v22_4 hm22 hl h t_22 o_22 iv22_3 iv22_4 k22_u0_3 hv22_0; exact absurd hm22 (by omega)
    | succ n22 ih22 =>
      intro ls f_22 H locs v22_3 v22_4 hm22 hl h t_22 o_22 iv22_3 iv22_4 k22_u0_3 hv22_0
      have L33 : ∀ (n33 : Nat) (ls : Array Slot) (f_33 : hM) (H : Heap) (locs : List Loc) (v33_5 : Int32), 28 - v33_5.toInt < (n33 : Int) → lv_has ls 6 [(0, .ref u0), (2, .int u2), (3, .int v22_3), (4, .int v22_4), (5, .int v33_5)] → hw D b0 s.heap f_33 H locs → TI G 9 τ f_33 → Fr [40, 41, 42, 48, 40002, 40003, 40004] τ f f_33 → iv v22_4 0 31 → iv v33_5 0 28 → atp f_33 u0 (fd 3 (.int wh)) → v22_3.toInt = (u1.toInt + 1) * (u2.toInt + 1) → W p l e rm_s_X3_solveb s m args below meth c H locs 0 0 Q (F0 m 33 ls []) := by
        intro n33
        induction n33 with
        | zero => intro ls f_33 H locs v33_5 hm33 hl h t_33 o_33 jv33_4 iv33_5 k33_u0_3 hv33_0; exact absurd hm33 (by omega)
        | succ n33 ih33 =>
          intro ls f_33 H locs v33_5 hm33 hl h t_33 o_33 jv33_4 iv33_5 k33_u0_3 hv33_0
          refine lv_iload hx hb dX3_solve_33 (lv_at hl 4 rfl) ?_
          refine lv_iload_n hx hb dX3_solve_35 rfl (lv_at hl 2 rfl) ?_
          refine lv_icmp_ge (tgt := 75) hx hb dX3_solve_36 (by decide) (fun c1 => ?_) (fun c1 => ?_)
          · have c2 : v22_3.toInt ≤ v33_5.toInt := Int32.le_iff_toInt_le.mp c1
            have i3 : iv v33_5 2 28 := iv_Er c2 iv22_3 iv33_5 (by decide)
            refine i_inc hx hb dX3_solve_75 hl (k := 3) rfl jv33_4 rfl (lo := 1) (hi := 32) (by decide) (by decide) (lv' := fun v => [(4, .int v), (0, .ref u0), (2, .int u2), (3, .int v22_3), (5, .int v33_5)]) (fun _ => rfl) (fun z6 ls ez6 mz6 iz6 hl => ?_)
            refine lv_goto (tgt := 22) hx hb dX3_solve_78 (by decide) ?_
            exact ih22 ls f_33 H locs v22_3 z6 (show 32 - z6.toInt < _ by omega) (lv_cons hl 1 rfl (lv_cons hl 2 rfl (lv_cons hl 3 rfl (lv_cons hl 0 rfl (lv_nil hl))))) h t_33 o_33 iv22_3 (iv_w iz6 (by decide)) k33_u0_3 (show v22_3.toInt = (u1.toInt + 1) * (u2.toInt + 1) by omega)
          · have c4 : v33_5.toInt < v22_3.toInt := Int32.lt_iff_toInt_lt.mp (iv_nle c1)
            have i5 : iv v33_5 0 27 := iv_Ll c4 iv33_5 iv22_3 (by decide)
            refine lv_aload_n hx hb dX3_solve_39 rfl (lv_at hl 0 rfl) ?_
            refine t_getr (tq := 40) C h t_33 hu0 (by decide) wf_45 rfl fl_X3_9 dX3_solve_40 (fun q7 tq7 => ?_)
            refine lv_iload hx hb dX3_solve_43 (lv_at hl 3 rfl) ?_
            refine lv_iload hx hb dX3_solve_45 (lv_at hl 4 rfl) ?_
            refine lv_aload_n hx hb dX3_solve_47 rfl (lv_at hl 0 rfl) ?_
            refine lv_iload hx hb dX3_solve_48 (lv_at hl 4 rfl) ?_
            refine lv_iload_n hx hb dX3_solve_50 rfl (lv_at hl 1 rfl) ?_
            refine lv_iconst (v := 1) hx hb dX3_solve_51 (by decide) ?_
            refine i_addk hx hb dX3_solve_52 hu2 (k := 1) rfl (lo := 1) (hi := 7) (by decide) (fun z8 ez8 mz8 iz8 => ?_)
            refine lv_idiv hx hb dX3_solve_53 (iv_nz iz8 (by decide)) (i_top (iv_divp (iv_w i5 (by decide) : iv _ 0 27) iz8 (by decide)) (fun z9 ez9 iz9 => ?_))
            have q10 : z9.toInt < u1.toInt + 1 := by rw [ez9]; exact div_lt (by omega) mz8 (by omega) hv33_0 (by omega)
            have i11 : iv z9 0 3 := ⟨by omega, by omega⟩
            refine lv_iload hx hb dX3_solve_54 (lv_at hl 4 rfl) ?_
            refine lv_iload_n hx hb dX3_solve_56 rfl (lv_at hl 1 rfl) ?_
            refine lv_iconst (v := 1) hx hb dX3_solve_57 (by decide) ?_
            refine i_addk hx hb dX3_solve_58 hu2 (k := 1) rfl (lo := 1) (hi := 7) (by decide) (fun z12 ez12 mz12 iz12 => ?_)
            refine lv_irem hx hb dX3_solve_59 (iv_nz iz12 (by decide)) (i_topm (P := fun q_ => q_ < Int32.toInt z12 ∧ q_ ≤ Int32.toInt v33_5) (iv_remm (iv_w i5 (by decide) : iv _ 0 27) iz12 (by decide)) (fun z13 ez13 mz13 iz13 => ?_))
            refine lv_iload hx hb dX3_solve_60 (lv_at hl 3 rfl) ?_
            obtain ⟨_, r14⟩ := t_rec t_33 hu0 (by decide) wf_45
            refine k_i (r_V C h hl (As := [.int z9, .int z13, .int v22_4]) (rest := [.int v33_5, .int v22_4, .ref q7]) (s_X3_factorb l D G b0 τ f_33 t_33 u0 hu0 z9 i11 z13 iz13 v22_4 (iv_w jv33_4 (by decide)) wh hwh k33_u0_3) r14 (Cn := RX3) (T := TX3) (N := 4) rfl rfl mk_X3_factor w_1053 w_1055 w_29 w_1056 ⟨Nat.le_of_ble_eq_true rfl, Nat.le_of_ble_eq_true rfl⟩ rfl (Nat.le_of_ble_eq_true rfl) ⟨Nat.le_of_ble_eq_true rfl, Nat.le_of_ble_eq_true rfl⟩ rfl dX3_solve_62) h (fun r15 f16 H locs p17 h => ?_)
            obtain ⟨ir15, tf16, ogf16⟩ := p17
            have egf16 := Fr.nil2 ogf16
            subst egf16
            refine lv_i2l hx hb dX3_solve_65 rfl (i_topL ir15 (fun w18 ew18 mw18 iw18 => ?_))
            obtain ⟨_, r19⟩ := t_rec t_33 tq7 (by decide) wf_40
            refine k_v (r_V C h hl (As := [.int v22_4, .int v33_5, .long w18]) (rest := []) (s_X4_put l D G b0 τ f_33 t_33 q7 tq7 v22_4 (iv_w jv33_4 (by decide)) v33_5 (iv_w i5 (by decide)) w18) r19 (Cn := RX4) (T := TX4) (N := 4) rfl rfl mk_X4_put w_1058 w_793 w_794 w_795 ⟨Nat.le_of_ble_eq_true rfl, Nat.le_of_ble_eq_true rfl⟩ rfl (Nat.le_of_ble_eq_true rfl) ⟨Nat.le_of_ble_eq_true rfl, Nat.le_of_ble_eq_true rfl⟩ rfl dX3_solve_66) h (fun f21 H locs p22 h => ?_)
            obtain ⟨tf21, ogf21⟩ := p22
            have of21 : Fr [40, 41, 42, 48, 40002, 40003, 40004] τ f f21 := Fr.tr o_33 ogf21 (by decide) (by decide)
            have k23 := atp.fr k33_u0_3 ogf21 hu0 (by decide)
            refine i_inc hx hb dX3_solve_69 hl (k := 4) rfl i5 rfl (lo := 1) (hi := 28) (by decide) (by decide) (lv' := fun v => [(5, .int v), (0, .ref u0), (2, .int u2), (3, .int v22_3), (4, .int v22_4)]) (fun _ => rfl) (fun z24 ls ez24 mz24 iz24 hl => ?_)
            refine lv_goto (tgt := 33) hx hb dX3_solve_72 (by decide) ?_
            exact ih33 ls f21 H locs z24 (show 28 - z24.toInt < _ by omega) (lv_cons hl 1 rfl (lv_cons hl 2 rfl (lv_cons hl 3 rfl (lv_cons hl 4 rfl (lv_cons hl 0 rfl (lv_nil hl)))))) h tf21 of21 jv33_4 (iv_w iz24 (by decide)) k23 (show v22_3.toInt = (u1.toInt + 1) * (u2.toInt + 1) by omega)
      have L109 : ∀ (n109 : Nat) (ls : Array Slot) (f_109 : hM) (H : Heap) (locs : List Loc) (v109_4 : Int32) (v109_5 : Int32), 27 - v109_5.toInt < (n109 : Int) → lv_has ls 6 [(0, .ref u0), (4, .int v109_4), (5, .int v109_5)] → hw D b0 s.heap f_109 H locs → TI G 9 τ f_109 → Fr [40, 41, 42, 48, 40002, 40003, 40004] τ f f_109 → iv v109_4 0 27 → iv v109_5 0 27 → atp f_109 u0 (fd 3 (.int wh)) → W p l e rm_s_X3_solveb s m args below meth c H locs 0 0 Q (F0 m 109 ls []) := by
        intro n109
        induction n109 with
        | zero => intro ls f_109 H locs v109_4 v109_5 hm109 hl h t_109 o_109 iv109_4 iv109_5 k109_u0_3; exact absurd hm109 (by omega)
        | succ n109 ih109 =>
          intro ls f_109 H locs v109_4 v109_5 hm109 hl h t_109 o_109 iv109_4 iv109_5 k109_u0_3
          refine lv_iload hx hb dX3_solve_109 (lv_at hl 2 rfl) ?_
          refine lv_iload hx hb dX3_solve_111 (lv_at hl 1 rfl) ?_
          refine lv_icmp_ge (tgt := 145) hx hb dX3_solve_113 (by decide) (fun c25 => ?_) (fun c25 => ?_)
          · have c26 : v109_4.toInt ≤ v109_5.toInt := Int32.le_iff_toInt_le.mp c25
            refine lv_aload_n hx hb dX3_solve_145 rfl (lv_at hl 0 rfl) ?_
            refine t_getr (tq := 48) C h t_109 hu0 (by decide) wf_45 rfl fl_X3_22 dX3_solve_146 (fun q30 tq30 => ?_)
            refine lv_iload hx hb dX3_solve_149 (lv_at hl 1 rfl) ?_
            refine lv_iconst (v := 1) hx hb dX3_solve_151 (by decide) ?_
            refine t_iast C h t_109 o_109 tq30 (by decide) (by decide) wf_48 fw_48 (iv_in iv109_4 (by decide)) ⟨by decide, by decide⟩ dX3_solve_152 (fun f31 H locs h tf31 of31 hq => ?_)
            have k32 := atp.tg k109_u0_3 hq hu0 (by decide)
            refine lv_iconst (v := 1) hx hb dX3_solve_153 (by decide) ?_
            exact u_zret C h hr hQ ⟨by decide, by decide⟩ (⟨⟨by decide, by decide⟩, tf31, of31⟩) (Nat.le_of_ble_eq_true rfl) (Nat.le_of_ble_eq_true rfl) dX3_solve_154
          · have c27 : v109_5.toInt < v109_4.toInt := Int32.lt_iff_toInt_lt.mp (iv_nle c25)
            have i28 : iv v109_5 0 26 := iv_Ll c27 iv109_5 iv109_4 (by decide)
            have i29 : iv v109_4 1 27 := iv_Lr c27 iv109_5 iv109_4 (by decide)
            refine lv_aload_n hx hb dX3_solve_116 rfl (lv_at hl 0 rfl) ?_
            refine t_getr (tq := 48) C h t_109 hu0 (by decide) wf_45 rfl fl_X3_22 dX3_solve_117 (fun q33 tq33 => ?_)
            refine lv_iload hx hb dX3_solve_120 (lv_at hl 2 rfl) ?_
            refine lv_aload_n hx hb dX3_solve_122 rfl (lv_at hl 0 rfl) ?_
            refine t_getr (tq := 40) C h t_109 hu0 (by decide) wf_45 rfl fl_X3_9 dX3_solve_123 (fun q34 tq34 => ?_)
            refine lv_iload hx hb dX3_solve_126 (lv_at hl 2 rfl) ?_
            refine lv_iload hx hb dX3_solve_128 (lv_at hl 1 rfl) ?_
            obtain ⟨_, r35⟩ := t_rec t_109 tq34 (by decide) wf_40
            refine k_i (r_V C h hl (As := [.int v109_5, .int v109_4]) (rest := [.int v109_5, .ref q33]) (s_X4_share l D G b0 τ f_109 t_109 q34 tq34 v109_5 (iv_w i28 (by decide)) v109_4 (iv_w i29 (by decide))) r35 (Cn := RX4) (T := TX4) (N := 4) rfl rfl mk_X4_share w_1063 w_1064 w_1065 w_1066 ⟨Nat.le_of_ble_eq_true rfl, Nat.le_of_ble_eq_true rfl⟩ rfl (Nat.le_of_ble_eq_true rfl) ⟨Nat.le_of_ble_eq_true rfl, Nat.le_of_ble_eq_true rfl⟩ rfl dX3_solve_130) h (fun r36 f37 H locs p38 h => ?_)
            obtain ⟨ir36, tf37, ogf37⟩ := p38
            have egf37 := Fr.nil2 ogf37
            subst egf37
            refine lv_ineg hx hb dX3_solve_133 (i_top (iv_any _) (fun z39 ez39 iz39 => ?_))
            refine lv_i2l hx hb dX3_solve_134 rfl (i_topL iz39 (fun w40 ew40 mw40 iw40 => ?_))
            refine k_i (r_SN C h hl (host := "QuarterWalks") (As := [.long w40]) (rest := [.int v109_5, .ref q33]) (s_X10_residue l D G b0 τ f_109 t_109 w40) mk_X10_residue (by decide) w_741 w_742 ⟨Nat.le_of_ble_eq_true rfl, Nat.le_of_ble_eq_true rfl⟩ rfl (Nat.le_of_ble_eq_true rfl) ⟨Nat.le_of_ble_eq_true rfl, Nat.le_of_ble_eq_true rfl⟩ rfl dX3_solve_135) h (fun r41 f42 H locs p43 h => ?_)
            obtain ⟨ir41, tf42, ogf42⟩ := p43
            have egf42 := Fr.nil2 ogf42
            subst egf42
            refine t_iast C h t_109 o_109 tq33 (by decide) (by decide) wf_48 fw_48 (iv_in i28 (by decide)) ir41 dX3_solve_138 (fun f44 H locs h tf44 of44 hq => ?_)
            have k45 := atp.tg k109_u0_3 hq hu0 (by decide)
            refine i_inc hx hb dX3_solve_139 hl (k := 2) rfl i28 rfl (lo := 1) (hi := 27) (by decide) (by decide) (lv' := fun v => [(5, .int v), (0, .ref u0), (4, .int v109_4)]) (fun _ => rfl) (fun z46 ls ez46 mz46 iz46 hl => ?_)
            refine lv_goto (tgt := 109) hx hb dX3_solve_142 (by decide) ?_
            exact ih109 ls f44 H locs v109_4 z46 (show 27 - z46.toInt < _ by omega) (lv_cons hl 1 rfl (lv_cons hl 2 rfl (lv_cons hl 0 rfl (lv_nil hl)))) h tf44 of44 (iv_w i29 (by decide)) (iv_w iz46 (by decide)) k45
      refine lv_iload hx hb dX3_solve_22 (lv_at hl 3 rfl) ?_
      refine lv_iload_n hx hb dX3_solve_24 rfl (lv_at hl 2 rfl) ?_
      refine lv_iconst (v := 4) hx hb dX3_solve_25 (by decide) ?_
      refine i_addk hx hb dX3_solve_26 iv22_3 (k := 4) rfl (lo := 6) (hi := 32) (by decide) (fun z47 ez47 mz47 iz47 => ?_)
      refine lv_icmp_ge (tgt := 81) hx hb dX3_solve_27 (by decide) (fun c48 => ?_) (fun c48 => ?_)
      · have c49 : z47.toInt ≤ v22_4.toInt := Int32.le_iff_toInt_le.mp c48
        have i50 : iv v22_4 6 32 := iv_Er c49 iz47 iv22_4 (by decide)
        refine lv_aload_n hx hb dX3_solve_81 rfl (lv_at hl 0 rfl) ?_
        refine t_getr (tq := 40) C h t_22 hu0 (by decide) wf_45 rfl fl_X3_9 dX3_solve_82 (fun q53 tq53 => ?_)
        obtain ⟨_, r54⟩ := t_rec t_22 tq53 (by decide) wf_40
        refine k_i (r_V C h hl (As := []) (rest := []) (s_X4_firstMadeUp l D G b0 τ f_22 t_22 q53 tq53) r54 (Cn := RX4) (T := TX4) (N := 4) rfl rfl mk_X4_firstMadeUp w_1059 w_1060 w_1061 w_1062 ⟨Nat.le_of_ble_eq_true rfl, Nat.le_of_ble_eq_true rfl⟩ rfl (Nat.le_of_ble_eq_true rfl) ⟨Nat.le_of_ble_eq_true rfl, Nat.le_of_ble_eq_true rfl⟩ rfl dX3_solve_85) h (fun r55 f56 H locs p57 h => ?_)
        obtain ⟨ir55, tf56, ogf56⟩ := p57
        have of56 : Fr [40, 41, 42, 48, 40002, 40003, 40004] τ f f56 := Fr.tr o_22 ogf56 (by decide) (by decide)
        have k58 := atp.fr k22_u0_3 ogf56 hu0 (by decide)
        refine lv_istore (lv' := [(4, .int r55), (0, .ref u0), (2, .int u2), (3, .int v22_3)]) hx hb dX3_solve_88 hl (by decide) rfl (fun ls hl => ?_)
        refine lv_aload_n hx hb dX3_solve_90 rfl (lv_at hl 1 rfl) ?_
        refine t_getr (tq := 48) C h tf56 hu0 (by decide) wf_45 rfl fl_X3_22 dX3_solve_91 (fun q59 tq59 => ?_)
        refine lv_iconst (v := 0) hx hb dX3_solve_94 (by decide) ?_
        refine k_v (r_S C h hl (As := [.ref q59, .int 0]) (rest := []) (s_J7_fill_53178t48 l D G b0 τ f56 tf56 q59 tq59 0 (iv_w (iv_k (x := 0) (k := 0) rfl) (by decide))) mk_J7_fill_53178 w_1038 w_437 w_438 ⟨Nat.le_of_ble_eq_true rfl, Nat.le_of_ble_eq_true rfl⟩ rfl (Nat.le_of_ble_eq_true rfl) ⟨Nat.le_of_ble_eq_true rfl, Nat.le_of_ble_eq_true rfl⟩ rfl dX3_solve_95) h (fun f61 H locs p62 h => ?_)
        obtain ⟨tf61, ogf61⟩ := p62
        have of61 : Fr [40, 41, 42, 48, 40002, 40003, 40004] τ f f61 := Fr.tr of56 ogf61 (by decide) (by decide)
        have k63 := atp.fr k58 ogf61 hu0 (by decide)
        refine lv_iload hx hb dX3_solve_98 (lv_at hl 0 rfl) ?_
        refine lv_iconst (v := -1) hx hb dX3_solve_100 (by decide) ?_
        refine lv_icmp_ne (tgt := 106) hx hb dX3_solve_101 (by decide) (fun c64 => ?_) (fun c64 => ?_)
        · have c65 : r55.toInt ≠ (-1) := fun z_ => c64 (Int32.toInt_inj.mp z_)
          have i66 : iv r55 0 27 := iv_Nl c65 ir55 (by decide)
          refine lv_iconst (v := 0) hx hb dX3_solve_106 (by decide) ?_
          refine lv_istore (lv' := [(5, .int 0), (4, .int r55), (0, .ref u0), (2, .int u2), (3, .int v22_3)]) hx hb dX3_solve_107 hl (by decide) rfl (fun ls hl => ?_)
          exact L109 28 ls f61 H locs r55 0 (by decide) (lv_cons hl 2 rfl (lv_cons hl 1 rfl (lv_cons hl 0 rfl (lv_nil hl)))) h tf61 of61 i66 ⟨by decide, by decide⟩ k63
        · have c67 : r55.toInt = (-1) := congrArg Int32.toInt c64
          have i68 : iv r55 (-1) (-1) := iv_Q c67 ir55 (iv_k (x := (-1)) (k := (-1)) rfl) (by decide)
          refine lv_iconst (v := 0) hx hb dX3_solve_104 (by decide) ?_
          exact u_zret C h hr hQ ⟨by decide, by decide⟩ (⟨⟨by decide, by decide⟩, tf61, of61⟩) (Nat.le_of_ble_eq_true rfl) (Nat.le_of_ble_eq_true rfl) dX3_solve_105
      · have c51 : v22_4.toInt < z47.toInt := Int32.lt_iff_toInt_lt.mp (iv_nle c48)
        have i52 : iv v22_4 0 31 := iv_Ll c51 iv22_4 iz47 (by decide)
        refine lv_iconst (v := 0) hx hb dX3_solve_30 (by decide) ?_
        refine lv_istore (lv' := [(5, .int 0), (0, .ref u0), (2, .int u2), (3, .int v22_3), (4, .int v22_4)]) hx hb dX3_solve_31 hl (by decide) rfl (fun ls hl => ?_)
        exact L33 29 ls f_22 H locs 0 (by decide) (lv_cons hl 1 rfl (lv_cons hl 2 rfl (lv_cons hl 3 rfl (lv_cons hl 4 rfl (lv_cons hl 0 rfl (lv_nil hl)))))) h t_22 o_22 i52 ⟨by decide, by decide⟩ k22_u0_3 (show v22_3.toInt = (u1.toInt + 1) * (u2.toInt + 1) by omega)
  refine lv_iload_n hx hb dX3_solve_0 rfl (lv_at hl 1 rfl) ?_
  refine lv_iconst (v := 1) hx hb dX3_solve_1 (by decide) ?_
  refine i_addk hx hb dX3_solve_2 hu1 (k := 1) rfl (lo := 2) (hi := 4) (by decide) (fun z69 ez69 mz69 iz69 => ?_)
  refine lv_iload_n hx hb dX3_solve_3 rfl (lv_at hl 2 rfl) ?_
  refine lv_iconst (v := 1) hx hb dX3_solve_4 (by decide) ?_
  refine i_addk hx hb dX3_solve_5 hu2 (k := 1) rfl (lo := 1) (hi := 7) (by decide) (fun z70 ez70 mz70 iz70 => ?_)
  refine i_mulpm hx hb dX3_solve_6 iz69 iz70 (lo := 2) (hi := 28) (by decide) (fun z71 ez71 mz71 iz71 => ?_)
  have hm_ : z71.toInt = (u1.toInt + 1) * (u2.toInt + 1) := by rw [mz71, mz69, mz70]
  refine lv_istore_n (lv' := [(3, .int z71), (0, .ref u0), (1, .int u1), (2, .int u2)]) hx hb dX3_solve_7 rfl hl (by decide) rfl (fun ls hl => ?_)
  refine lv_aload_n hx hb dX3_solve_8 rfl (lv_at hl 1 rfl) ?_
  refine t_getr (tq := 40) C h t hu0 (by decide) wf_45 rfl fl_X3_9 dX3_solve_9 (fun q72 tq72 => ?_)
  refine lv_iload_n hx hb dX3_solve_12 rfl (lv_at hl 0 rfl) ?_
  refine lv_iconst (v := 4) hx hb dX3_solve_13 (by decide) ?_
  refine i_addk hx hb dX3_solve_14 iz71 (k := 4) rfl (lo := 6) (hi := 32) (by decide) (fun z73 ez73 mz73 iz73 => ?_)
  refine lv_iload_n hx hb dX3_solve_15 rfl (lv_at hl 0 rfl) ?_
  obtain ⟨_, r74⟩ := t_rec t tq72 (by decide) wf_40
  refine k_v (r_V C h hl (As := [.int z73, .int z71]) (rest := []) (s_X4_shape l D G b0 τ f t q72 tq72 z73 (iv_w iz73 (by decide)) z71 (iv_w iz71 (by decide))) r74 (Cn := RX4) (T := TX4) (N := 4) rfl rfl mk_X4_shape w_1052 w_787 w_788 w_789 ⟨Nat.le_of_ble_eq_true rfl, Nat.le_of_ble_eq_true rfl⟩ rfl (Nat.le_of_ble_eq_true rfl) ⟨Nat.le_of_ble_eq_true rfl, Nat.le_of_ble_eq_true rfl⟩ rfl dX3_solve_16) h (fun f76 H locs p77 h => ?_)
  obtain ⟨tf76, ogf76⟩ := p77
  have of76 : Fr [40, 41, 42, 48, 40002, 40003, 40004] τ f f76 := Fr.tr o ogf76 (by decide) (by decide)
  have k78 := atp.fr k_u0_3 ogf76 hu0 (by decide)
  refine lv_iconst (v := 0) hx hb dX3_solve_19 (by decide) ?_
  refine lv_istore (lv' := [(4, .int 0), (3, .int z71), (0, .ref u0), (1, .int u1), (2, .int u2)]) hx hb dX3_solve_20 hl (by decide) rfl (fun ls hl => ?_)
  exact L22 33 ls f76 H locs z71 0 (by decide) (lv_cons hl 2 rfl (lv_cons hl 4 rfl (lv_cons hl 1 rfl (lv_cons hl 0 rfl (lv_nil hl))))) h tf76 of76 iz71 ⟨by decide, by decide⟩ k78 (show z71.toInt = (u1.toInt + 1) * (u2.toInt + 1) by omega)
abbrev rm_s_X3_firstMissb : Room := { frames := 1, cells := 0, slots := 0, locals := 26 }
set_option maxRecDepth 100000 in
set_option maxHeartbeats 4000000 in
theorem s_X3_firstMissb (l : Launch) (D : va_G) (G : Nat → Nat) (b0 : Nat) (τ : Nat → Nat) (f : hM) (t : TI G 9 τ f) (u0 : Nat) (hu0 : τ u0 = 45) (u1 : Int32) (hu1 : iv u1 1 3) (u2 : Int32) (hu2 : iv u2 0 6) (wh : Int32) (hwh : iv wh 1 1) (k_u0_3 : atp f u0 (fd 3 (.int wh))) : mI l yX3_firstMiss cX3_firstMiss 9 (.int) rm_s_X3_firstMissb D G b0 f [.ref u0, .int u1, .int u2] (fun r f1 => iv r (-1) 60 ∧ TI G 9 τ f1 ∧ Fr [] τ f f1) := by
  refine met2 (own := RX3) (by decide) rfl (Nat.le_of_ble_eq_true rfl) ?_
  intro p e s m args below meth c ls Q hQ C hr hini hl h
  have hl : lv_has ls 9 [(0, .ref u0), (1, .int u1), (2, .int u2)] := hl
  obtain ⟨hx, hb, hml, hown, hts, hE0, hlk⟩ := id C
  have o := Fr.rf [] τ f
  have L30 : ∀ (n30 : Nat) (ls : Array Slot) (f_30 : hM) (H : Heap) (locs : List Loc) (v30_3 : Int32) (v30_4 : Int32) (v30_5 : Int32), 61 - v30_5.toInt < (n30 : Int) → lv_has ls 9 [(0, .ref u0), (2, .int u2), (3, .int v30_3), (4, .int v30_4), (5, .int v30_5)] → hw D b0 s.heap f_30 H locs → TI G 9 τ f_30 → Fr [] τ f f_30 → iv v30_3 2 28 → iv v30_4 60 60 → iv v30_5 0 61 → atp f_30 u0 (fd 3 (.int wh)) → v30_3.toInt = (u1.toInt + 1) * (u2.toInt + 1) → W p l e rm_s_X3_firstMissb s m args below meth c H locs 0 0 Q (F0 m 30 ls []) := by
    intro n30
    induction n30 with
    | zero => intro ls f_30 H locs v30_3 v30_4 v30_5 hm30 hl h t_30 o_30 iv30_3 iv30_4 iv30_5 k30_u0_3 hv30_0; exact absurd hm30 (by omega)
    | succ n30 ih30 =>
      intro ls f_30 H locs v30_3 v30_4 v30_5 hm30 hl h t_30 o_30 iv30_3 iv30_4 iv30_5 k30_u0_3 hv30_0
      have L43 : ∀ (n43 : Nat) (ls : Array Slot) (f_43 : hM) (H : Heap) (locs : List Loc) (v43_6 : Int64) (v43_8 : Int32), 28 - v43_8.toInt < (n43 : Int) → lv_has ls 9 [(0, .ref u0), (2, .int u2), (3, .int v30_3), (4, .int v30_4), (5, .int v30_5), (6, .long v43_6), (8, .int v43_8)] → hw D b0 s.heap f_43 H locs → TI G 9 τ f_43 → Fr [] τ f f_43 → iv v30_5 0 60 → iv v43_8 0 28 → atp f_43 u0 (fd 3 (.int wh)) → v30_3.toInt = (u1.toInt + 1) * (u2.toInt + 1) → W p l e rm_s_X3_firstMissb s m args below meth c H locs 0 0 Q (F0 m 43 ls []) := by
        intro n43
        induction n43 with
        | zero => intro ls f_43 H locs v43_6 v43_8 hm43 hl h t_43 o_43 jv43_5 iv43_8 k43_u0_3 hv43_0; exact absurd hm43 (by omega)
        | succ n43 ih43 =>
          intro ls f_43 H locs v43_6 v43_8 hm43 hl h t_43 o_43 jv43_5 iv43_8 k43_u0_3 hv43_0
          refine lv_iload hx hb dX3_firstMiss_43 (lv_at hl 6 rfl) ?_
          refine lv_iload_n hx hb dX3_firstMiss_45 rfl (lv_at hl 2 rfl) ?_
          refine lv_icmp_ge (tgt := 101) hx hb dX3_firstMiss_46 (by decide) (fun c1 => ?_) (fun c1 => ?_)
          · have c2 : v30_3.toInt ≤ v43_8.toInt := Int32.le_iff_toInt_le.mp c1
            have i3 : iv v43_8 2 28 := iv_Er c2 iv30_3 iv43_8 (by decide)
            refine lv_lload hx hb dX3_firstMiss_101 (lv_at hl 5 rfl) ?_
            refine lv_ldc2 (v := 1000003) hx hb hown (hts _ w_1057) dX3_firstMiss_103 ?_
            refine lv_lrem hx hb dX3_firstMiss_106 (by decide) (i_topl (lrem_iv (k := 1000003) rfl (by decide) (lo := -1000002) (hi := 1000002) (by decide)) (fun w6 ew6 iw6 => ?_))
            refine lv_lconst (v := 0) hx hb dX3_firstMiss_107 (by decide) ?_
            refine W.lcmp hx hb dX3_firstMiss_108 (i_topc (fun z7 ez7 mz7 iz7 => ?_))
            refine lv_if_eq (tgt := 115) hx hb dX3_firstMiss_109 (by decide) (fun c8 => ?_) (fun c8 => ?_)
            · have c9 : z7.toInt = 0 := congrArg Int32.toInt c8
              have i10 : iv z7 0 0 := iv_Q c9 iz7 (iv_k (x := 0) (k := 0) rfl) (by decide)
              refine i_inc hx hb dX3_firstMiss_115 hl (k := 4) rfl jv43_5 rfl (lo := 1) (hi := 61) (by decide) (by decide) (lv' := fun v => [(5, .int v), (0, .ref u0), (2, .int u2), (3, .int v30_3), (4, .int v30_4), (6, .long v43_6), (8, .int v43_8)]) (fun _ => rfl) (fun z12 ls ez12 mz12 iz12 hl => ?_)
              refine lv_goto (tgt := 30) hx hb dX3_firstMiss_118 (by decide) ?_
              exact ih30 ls f_43 H locs v30_3 v30_4 z12 (show 61 - z12.toInt < _ by omega) (lv_cons hl 1 rfl (lv_cons hl 2 rfl (lv_cons hl 3 rfl (lv_cons hl 4 rfl (lv_cons hl 0 rfl (lv_nil hl)))))) h t_43 o_43 iv30_3 iv30_4 (iv_w iz12 (by decide)) k43_u0_3 (show v30_3.toInt = (u1.toInt + 1) * (u2.toInt + 1) by omega)
            · have c11 : z7.toInt ≠ 0 := fun z_ => c8 (Int32.toInt_inj.mp z_)
              refine lv_iload hx hb dX3_firstMiss_112 (lv_at hl 4 rfl) ?_
              exact u_iret C h hr hQ (⟨(iv_w jv43_5 (by decide)), t_43, o_43⟩) (Nat.le_of_ble_eq_true rfl) (Nat.le_of_ble_eq_true rfl) dX3_firstMiss_114
          · have c4 : v43_8.toInt < v30_3.toInt := Int32.lt_iff_toInt_lt.mp (iv_nle c1)
            have i5 : iv v43_8 0 27 := iv_Ll c4 iv43_8 iv30_3 (by decide)
            refine lv_aload_n hx hb dX3_firstMiss_49 rfl (lv_at hl 0 rfl) ?_
            refine t_getr (tq := 48) C h t_43 hu0 (by decide) wf_45 rfl fl_X3_22 dX3_firstMiss_50 (fun q13 tq13 => ?_)
            refine lv_iload hx hb dX3_firstMiss_53 (lv_at hl 6 rfl) ?_
            refine t_iald C h t_43 tq13 (by decide) wf_48 (iv_in i5 (by decide)) dX3_firstMiss_55 (fun z14 iz14 => ?_)
            refine lv_if_eq (tgt := 95) hx hb dX3_firstMiss_56 (by decide) (fun c15 => ?_) (fun c15 => ?_)
            · have c16 : z14.toInt = 0 := congrArg Int32.toInt c15
              have i17 : iv z14 0 0 := iv_Q c16 iz14 (iv_k (x := 0) (k := 0) rfl) (by decide)
              refine i_inc hx hb dX3_firstMiss_95 hl (k := 6) rfl i5 rfl (lo := 1) (hi := 28) (by decide) (by decide) (lv' := fun v => [(8, .int v), (0, .ref u0), (2, .int u2), (3, .int v30_3), (4, .int v30_4), (5, .int v30_5), (6, .long v43_6)]) (fun _ => rfl) (fun z19 ls ez19 mz19 iz19 hl => ?_)
              refine lv_goto (tgt := 43) hx hb dX3_firstMiss_98 (by decide) ?_
              exact ih43 ls f_43 H locs v43_6 z19 (show 28 - z19.toInt < _ by omega) (lv_cons hl 1 rfl (lv_cons hl 2 rfl (lv_cons hl 3 rfl (lv_cons hl 4 rfl (lv_cons hl 5 rfl (lv_cons hl 6 rfl (lv_cons hl 0 rfl (lv_nil hl)))))))) h t_43 o_43 jv43_5 (iv_w iz19 (by decide)) k43_u0_3 (show v30_3.toInt = (u1.toInt + 1) * (u2.toInt + 1) by omega)
            · have c18 : z14.toInt ≠ 0 := fun z_ => c15 (Int32.toInt_inj.mp z_)
              refine lv_lload hx hb dX3_firstMiss_59 (lv_at hl 5 rfl) ?_
              refine lv_aload_n hx hb dX3_firstMiss_61 rfl (lv_at hl 0 rfl) ?_
              refine t_getr (tq := 48) C h t_43 hu0 (by decide) wf_45 rfl fl_X3_22 dX3_firstMiss_62 (fun q20 tq20 => ?_)
              refine lv_iload hx hb dX3_firstMiss_65 (lv_at hl 6 rfl) ?_
              refine t_iald C h t_43 tq20 (by decide) wf_48 (iv_in i5 (by decide)) dX3_firstMiss_67 (fun z21 iz21 => ?_)
              refine lv_i2l hx hb dX3_firstMiss_68 rfl (i_topL iz21 (fun w22 ew22 mw22 iw22 => ?_))
              refine lv_aload_n hx hb dX3_firstMiss_69 rfl (lv_at hl 0 rfl) ?_
              refine lv_iload hx hb dX3_firstMiss_70 (lv_at hl 6 rfl) ?_
              refine lv_iload_n hx hb dX3_firstMiss_72 rfl (lv_at hl 1 rfl) ?_
              refine lv_iconst (v := 1) hx hb dX3_firstMiss_73 (by decide) ?_
              refine i_addk hx hb dX3_firstMiss_74 hu2 (k := 1) rfl (lo := 1) (hi := 7) (by decide) (fun z23 ez23 mz23 iz23 => ?_)
              refine lv_idiv hx hb dX3_firstMiss_75 (iv_nz iz23 (by decide)) (i_top (iv_divp (iv_w i5 (by decide) : iv _ 0 27) iz23 (by decide)) (fun z24 ez24 iz24 => ?_))
              have q25 : z24.toInt < u1.toInt + 1 := by rw [ez24]; exact div_lt (by omega) mz23 (by omega) hv43_0 (by omega)
              have i26 : iv z24 0 3 := ⟨by omega, by omega⟩
              refine lv_iload hx hb dX3_firstMiss_76 (lv_at hl 6 rfl) ?_
              refine lv_iload_n hx hb dX3_firstMiss_78 rfl (lv_at hl 1 rfl) ?_
              refine lv_iconst (v := 1) hx hb dX3_firstMiss_79 (by decide) ?_
              refine i_addk hx hb dX3_firstMiss_80 hu2 (k := 1) rfl (lo := 1) (hi := 7) (by decide) (fun z27 ez27 mz27 iz27 => ?_)
              refine lv_irem hx hb dX3_firstMiss_81 (iv_nz iz27 (by decide)) (i_topm (P := fun q_ => q_ < Int32.toInt z27 ∧ q_ ≤ Int32.toInt v43_8) (iv_remm (iv_w i5 (by decide) : iv _ 0 27) iz27 (by decide)) (fun z28 ez28 mz28 iz28 => ?_))
              refine lv_iload hx hb dX3_firstMiss_82 (lv_at hl 4 rfl) ?_
              obtain ⟨_, r29⟩ := t_rec t_43 hu0 (by decide) wf_45
              refine k_i (r_V C h hl (As := [.int z24, .int z28, .int v30_5]) (rest := [.long w22, .long v43_6]) (s_X3_factorb l D G b0 τ f_43 t_43 u0 hu0 z24 i26 z28 iz28 v30_5 jv43_5 wh hwh k43_u0_3) r29 (Cn := RX3) (T := TX3) (N := 4) rfl rfl mk_X3_factor w_1053 w_1055 w_29 w_1056 ⟨Nat.le_of_ble_eq_true rfl, Nat.le_of_ble_eq_true rfl⟩ rfl (Nat.le_of_ble_eq_true rfl) ⟨Nat.le_of_ble_eq_true rfl, Nat.le_of_ble_eq_true rfl⟩ rfl dX3_firstMiss_84) h (fun r30 f31 H locs p32 h => ?_)
              obtain ⟨ir30, tf31, ogf31⟩ := p32
              have egf31 := Fr.nil2 ogf31
              subst egf31
              refine lv_i2l hx hb dX3_firstMiss_87 rfl (i_topL ir30 (fun w33 ew33 mw33 iw33 => ?_))
              refine k_i (r_SN C h hl (host := "QuarterWalks") (As := [.long w22, .long w33]) (rest := [.long v43_6]) (s_X10_times l D G b0 τ f_43 t_43 w22 w33) mk_X10_times (by decide) w_807 w_808 ⟨Nat.le_of_ble_eq_true rfl, Nat.le_of_ble_eq_true rfl⟩ rfl (Nat.le_of_ble_eq_true rfl) ⟨Nat.le_of_ble_eq_true rfl, Nat.le_of_ble_eq_true rfl⟩ rfl dX3_firstMiss_88) h (fun r34 f35 H locs p36 h => ?_)
              obtain ⟨ir34, tf35, ogf35⟩ := p36
              have egf35 := Fr.nil2 ogf35
              subst egf35
              refine lv_i2l hx hb dX3_firstMiss_91 rfl (i_topL ir34 (fun w37 ew37 mw37 iw37 => ?_))
              refine lv_ladd hx hb dX3_firstMiss_92 (lv_topl (fun w38 ew38 => ?_))
              refine lv_lstore (lv' := [(6, .long w38), (0, .ref u0), (2, .int u2), (3, .int v30_3), (4, .int v30_4), (5, .int v30_5), (8, .int v43_8)]) hx hb dX3_firstMiss_93 hl (by decide) rfl (fun ls hl => ?_)
              refine i_inc hx hb dX3_firstMiss_95 hl (k := 6) rfl i5 rfl (lo := 1) (hi := 28) (by decide) (by decide) (lv' := fun v => [(8, .int v), (6, .long w38), (0, .ref u0), (2, .int u2), (3, .int v30_3), (4, .int v30_4), (5, .int v30_5)]) (fun _ => rfl) (fun z39 ls ez39 mz39 iz39 hl => ?_)
              refine lv_goto (tgt := 43) hx hb dX3_firstMiss_98 (by decide) ?_
              exact ih43 ls f_43 H locs w38 z39 (show 28 - z39.toInt < _ by omega) (lv_cons hl 2 rfl (lv_cons hl 3 rfl (lv_cons hl 4 rfl (lv_cons hl 5 rfl (lv_cons hl 6 rfl (lv_cons hl 1 rfl (lv_cons hl 0 rfl (lv_nil hl)))))))) h t_43 o_43 jv43_5 (iv_w iz39 (by decide)) k43_u0_3 (show v30_3.toInt = (u1.toInt + 1) * (u2.toInt + 1) by omega)
      refine lv_iload hx hb dX3_firstMiss_30 (lv_at hl 4 rfl) ?_
      refine lv_iload hx hb dX3_firstMiss_32 (lv_at hl 3 rfl) ?_
      refine lv_icmp_gt (tgt := 121) hx hb dX3_firstMiss_34 (by decide) (fun c40 => ?_) (fun c40 => ?_)
      · have c41 : v30_4.toInt < v30_5.toInt := Int32.lt_iff_toInt_lt.mp c40
        have i42 : iv v30_5 61 61 := iv_Lr c41 iv30_4 iv30_5 (by decide)
        refine lv_iconst (v := -1) hx hb dX3_firstMiss_121 (by decide) ?_
        exact u_iret C h hr hQ (⟨⟨by decide, by decide⟩, t_30, o_30⟩) (Nat.le_of_ble_eq_true rfl) (Nat.le_of_ble_eq_true rfl) dX3_firstMiss_122
      · have c43 : v30_5.toInt ≤ v30_4.toInt := Int32.le_iff_toInt_le.mp (iv_nlt c40)
        have i44 : iv v30_5 0 60 := iv_El c43 iv30_5 iv30_4 (by decide)
        refine lv_lconst (v := 0) hx hb dX3_firstMiss_37 (by decide) ?_
        refine lv_lstore (lv' := [(6, .long 0), (0, .ref u0), (2, .int u2), (3, .int v30_3), (4, .int v30_4), (5, .int v30_5)]) hx hb dX3_firstMiss_38 hl (by decide) rfl (fun ls hl => ?_)
        refine lv_iconst (v := 0) hx hb dX3_firstMiss_40 (by decide) ?_
        refine lv_istore (lv' := [(8, .int 0), (6, .long 0), (0, .ref u0), (2, .int u2), (3, .int v30_3), (4, .int v30_4), (5, .int v30_5)]) hx hb dX3_firstMiss_41 hl (by decide) rfl (fun ls hl => ?_)
        exact L43 29 ls f_30 H locs 0 0 (by decide) (lv_cons hl 2 rfl (lv_cons hl 3 rfl (lv_cons hl 4 rfl (lv_cons hl 5 rfl (lv_cons hl 6 rfl (lv_cons hl 1 rfl (lv_cons hl 0 rfl (lv_nil hl)))))))) h t_30 o_30 i44 ⟨by decide, by decide⟩ k30_u0_3 (show v30_3.toInt = (u1.toInt + 1) * (u2.toInt + 1) by omega)
  refine lv_iload_n hx hb dX3_firstMiss_0 rfl (lv_at hl 1 rfl) ?_
  refine lv_iconst (v := 1) hx hb dX3_firstMiss_1 (by decide) ?_
  refine i_addk hx hb dX3_firstMiss_2 hu1 (k := 1) rfl (lo := 2) (hi := 4) (by decide) (fun z45 ez45 mz45 iz45 => ?_)
  refine lv_iload_n hx hb dX3_firstMiss_3 rfl (lv_at hl 2 rfl) ?_
  refine lv_iconst (v := 1) hx hb dX3_firstMiss_4 (by decide) ?_
  refine i_addk hx hb dX3_firstMiss_5 hu2 (k := 1) rfl (lo := 1) (hi := 7) (by decide) (fun z46 ez46 mz46 iz46 => ?_)
  refine i_mulpm hx hb dX3_firstMiss_6 iz45 iz46 (lo := 2) (hi := 28) (by decide) (fun z47 ez47 mz47 iz47 => ?_)
  have hm_ : z47.toInt = (u1.toInt + 1) * (u2.toInt + 1) := by rw [mz47, mz45, mz46]
  refine lv_istore_n (lv' := [(3, .int z47), (0, .ref u0), (1, .int u1), (2, .int u2)]) hx hb dX3_firstMiss_7 rfl hl (by decide) rfl (fun ls hl => ?_)
  refine lv_aload_n hx hb dX3_firstMiss_8 rfl (lv_at hl 1 rfl) ?_
  refine t_getfd C h t hu0 (by decide) wf_45 (v := .int wh) k_u0_3 fl_X3_30 dX3_firstMiss_9 ?_
  refine lv_iconst (v := 1) hx hb dX3_firstMiss_12 (by decide) ?_
  refine lv_icmp_ne (tgt := 21) hx hb dX3_firstMiss_13 (by decide) (fun c48 => ?_) (fun c48 => ?_)
  · have c49 : wh.toInt ≠ 1 := fun z_ => c48 (Int32.toInt_inj.mp z_)
    exact (iv_cn_ c49 hwh (iv_k (x := 1) (k := 1) rfl) (by decide)).elim
  · have c50 : wh.toInt = 1 := congrArg Int32.toInt c48
    refine lv_bipush (v := 60) hx hb dX3_firstMiss_16 (by decide) ?_
    refine lv_goto (tgt := 25) hx hb dX3_firstMiss_18 (by decide) ?_
    refine lv_istore (lv' := [(4, .int 60), (3, .int z47), (0, .ref u0), (1, .int u1), (2, .int u2)]) hx hb dX3_firstMiss_25 hl (by decide) rfl (fun ls hl => ?_)
    refine lv_iconst (v := 0) hx hb dX3_firstMiss_27 (by decide) ?_
    refine lv_istore (lv' := [(5, .int 0), (4, .int 60), (3, .int z47), (0, .ref u0), (1, .int u1), (2, .int u2)]) hx hb dX3_firstMiss_28 hl (by decide) rfl (fun ls hl => ?_)
    exact L30 62 ls f s.heap [] z47 60 0 (by decide) (lv_cons hl 3 rfl (lv_cons hl 5 rfl (lv_cons hl 2 rfl (lv_cons hl 1 rfl (lv_cons hl 0 rfl (lv_nil hl)))))) h t o iz47 ⟨by decide, by decide⟩ ⟨by decide, by decide⟩ k_u0_3 (show z47.toInt = (u1.toInt + 1) * (u2.toInt + 1) by omega)
abbrev rm_s_X3_coefficientb : Room := { frames := 4, cells := 0, slots := 0, locals := 99 }
set_option maxRecDepth 100000 in
set_option maxHeartbeats 4000000 in
theorem s_X3_coefficientb (l : Launch) (D : va_G) (G : Nat → Nat) (b0 : Nat) (τ : Nat → Nat) (f : hM) (t : TI G 9 τ f) (u0 : Nat) (hu0 : τ u0 = 45) (u1 : Int32) (hu1 : iv u1 1 3) (u2 : Int32) (hu2 : iv u2 0 6) (u3 : Int32) (hu3 : iv u3 (-2147483648) 2147483647) (u4 : Int32) (hu4 : iv u4 (-2147483648) 2147483647) (wh : Int32) (hwh : iv wh 1 1) (k_u0_3 : atp f u0 (fd 3 (.int wh))) : mI l yX3_coefficient cX3_coefficient 6 (.int) rm_s_X3_coefficientb D G b0 f [.ref u0, .int u1, .int u2, .int u3, .int u4] (fun r f1 => iv r (-2147483648) 2147483647 ∧ TI G 9 τ f1 ∧ Fr [40, 41, 42, 48, 40002, 40003, 40004] τ f f1) := by
  refine met2 (own := RX3) (by decide) rfl (Nat.le_of_ble_eq_true rfl) ?_
  intro p e s m args below meth c ls Q hQ C hr hini hl h
  have hl : lv_has ls 6 [(0, .ref u0), (1, .int u1), (2, .int u2), (3, .int u3), (4, .int u4)] := hl
  obtain ⟨hx, hb, hml, hown, hts, hE0, hlk⟩ := id C
  have o := Fr.rf [40, 41, 42, 48, 40002, 40003, 40004] τ f
  refine lv_iload_n hx hb dX3_coefficient_0 rfl (lv_at hl 3 rfl) ?_
  refine lv_iload_n hx hb dX3_coefficient_1 rfl (lv_at hl 2 rfl) ?_
  refine lv_iconst (v := 1) hx hb dX3_coefficient_2 (by decide) ?_
  refine i_addk hx hb dX3_coefficient_3 hu2 (k := 1) rfl (lo := 1) (hi := 7) (by decide) (fun z1 ez1 mz1 iz1 => ?_)
  refine lv_imul hx hb dX3_coefficient_4 (i_top (iv_any _) (fun z2 ez2 iz2 => ?_))
  refine lv_iload hx hb dX3_coefficient_5 (lv_at hl 4 rfl) ?_
  refine lv_iadd hx hb dX3_coefficient_7 (i_top (iv_any _) (fun z3 ez3 iz3 => ?_))
  refine lv_istore (lv' := [(5, .int z3), (0, .ref u0), (1, .int u1), (2, .int u2), (3, .int u3), (4, .int u4)]) hx hb dX3_coefficient_8 hl (by decide) rfl (fun ls hl => ?_)
  refine lv_aload_n hx hb dX3_coefficient_10 rfl (lv_at hl 1 rfl) ?_
  refine lv_iload_n hx hb dX3_coefficient_11 rfl (lv_at hl 2 rfl) ?_
  refine lv_iload_n hx hb dX3_coefficient_12 rfl (lv_at hl 3 rfl) ?_
  obtain ⟨_, r4⟩ := t_rec t hu0 (by decide) wf_45
  refine k_i (r_V C h hl (As := [.int u1, .int u2]) (rest := []) (s_X3_solveb l D G b0 τ f t u0 hu0 u1 hu1 u2 hu2 wh hwh k_u0_3) r4 (Cn := RX3) (T := TX3) (N := 4) rfl rfl mk_X3_solve w_1048 w_1050 w_28 w_1051 ⟨Nat.le_of_ble_eq_true rfl, Nat.le_of_ble_eq_true rfl⟩ rfl (Nat.le_of_ble_eq_true rfl) ⟨Nat.le_of_ble_eq_true rfl, Nat.le_of_ble_eq_true rfl⟩ rfl dX3_coefficient_13) h (fun r5 f6 H locs p7 h => ?_)
  obtain ⟨ir5, tf6, ogf6⟩ := p7
  have of6 : Fr [40, 41, 42, 48, 40002, 40003, 40004] τ f f6 := Fr.tr o ogf6 (by decide) (by decide)
  have k8 := atp.fr k_u0_3 ogf6 hu0 (by decide)
  refine lv_if_eq (tgt := 45) hx hb dX3_coefficient_16 (by decide) (fun c9 => ?_) (fun c9 => ?_)
  · have c10 : r5.toInt = 0 := congrArg Int32.toInt c9
    have i11 : iv r5 0 0 := iv_Q c10 ir5 (iv_k (x := 0) (k := 0) rfl) (by decide)
    refine lv_iconst (v := -1) hx hb dX3_coefficient_45 (by decide) ?_
    exact u_iret C h hr hQ (⟨⟨by decide, by decide⟩, tf6, of6⟩) (Nat.le_of_ble_eq_true rfl) (Nat.le_of_ble_eq_true rfl) dX3_coefficient_46
  · have c12 : r5.toInt ≠ 0 := fun z_ => c9 (Int32.toInt_inj.mp z_)
    have i13 : iv r5 1 1 := iv_Nl c12 ir5 (by decide)
    refine lv_iload hx hb dX3_coefficient_19 (lv_at hl 0 rfl) ?_
    refine lv_iconst (v := 0) hx hb dX3_coefficient_21 (by decide) ?_
    refine lv_aload_n hx hb dX3_coefficient_22 rfl (lv_at hl 1 rfl) ?_
    refine t_getr (tq := 48) C h tf6 hu0 (by decide) wf_45 rfl fl_X3_22 dX3_coefficient_23 (fun q14 tq14 => ?_)
    refine t_alen C h tf6 tq14 (by decide) (n := 28) (v := 28) (fun e_ h_ => Or.inl ⟨_, _, wf_48 e_ h_⟩) rfl dX3_coefficient_26 ?_
    refine lv_iconst (v := 1) hx hb dX3_coefficient_27 (by decide) ?_
    refine lv_isub hx hb dX3_coefficient_28 (lv_topi (fun x_ e_ => ?_))
    obtain rfl : 27 = x_ := by rw [e_]; decide
    refine k_i (r_SN C h hl (host := "QuarterWalks") (As := [.int z3, .int 0, .int 27]) (rest := []) (s_X10_within l D G b0 τ f6 tf6 z3 iz3 0 (iv_w (iv_k (x := 0) (k := 0) rfl) (by decide)) 27 (iv_w (iv_k (x := 27) (k := 27) rfl) (by decide))) mk_X10_within (by decide) w_426 w_427 ⟨Nat.le_of_ble_eq_true rfl, Nat.le_of_ble_eq_true rfl⟩ rfl (Nat.le_of_ble_eq_true rfl) ⟨Nat.le_of_ble_eq_true rfl, Nat.le_of_ble_eq_true rfl⟩ rfl dX3_coefficient_29) h (fun r15 f16 H locs p17 h => ?_)
    have n18 : (0 : Int32).toInt = 0 := rfl
    have n19 : (27 : Int32).toInt = 27 := rfl
    obtain ⟨ir15, tf16, ogf16, cnr15, czr15⟩ := p17
    have egf16 := Fr.nil2 ogf16
    subst egf16
    refine lv_if_eq (tgt := 45) hx hb dX3_coefficient_32 (by decide) (fun c20 => ?_) (fun c20 => ?_)
    · have c21 : r15.toInt = 0 := congrArg Int32.toInt c20
      have i22 : iv r15 0 0 := iv_Q c21 ir15 (iv_k (x := 0) (k := 0) rfl) (by decide)
      have i23 := czr15 c21
      refine lv_iconst (v := -1) hx hb dX3_coefficient_45 (by decide) ?_
      exact u_iret C h hr hQ (⟨⟨by decide, by decide⟩, tf6, of6⟩) (Nat.le_of_ble_eq_true rfl) (Nat.le_of_ble_eq_true rfl) dX3_coefficient_46
    · have c24 : r15.toInt ≠ 0 := fun z_ => c20 (Int32.toInt_inj.mp z_)
      have i25 : iv r15 1 1 := iv_Nl c24 ir15 (by decide)
      obtain ⟨i26, i27⟩ := cnr15 c24
      have i28 : iv z3 0 27 := ⟨by omega, by omega⟩
      refine lv_aload_n hx hb dX3_coefficient_35 rfl (lv_at hl 1 rfl) ?_
      refine t_getr (tq := 48) C h tf6 hu0 (by decide) wf_45 rfl fl_X3_22 dX3_coefficient_36 (fun q29 tq29 => ?_)
      refine lv_iload hx hb dX3_coefficient_39 (lv_at hl 0 rfl) ?_
      refine t_iald C h tf6 tq29 (by decide) wf_48 (iv_in i28 (by decide)) dX3_coefficient_41 (fun z30 iz30 => ?_)
      refine lv_goto (tgt := 46) hx hb dX3_coefficient_42 (by decide) ?_
      exact u_iret C h hr hQ (⟨iz30, tf6, of6⟩) (Nat.le_of_ble_eq_true rfl) (Nat.le_of_ble_eq_true rfl) dX3_coefficient_46
abbrev rm_s_X3_failingb : Room := { frames := 4, cells := 0, slots := 0, locals := 99 }
set_option maxRecDepth 100000 in
set_option maxHeartbeats 4000000 in
theorem s_X3_failingb (l : Launch) (D : va_G) (G : Nat → Nat) (b0 : Nat) (τ : Nat → Nat) (f : hM) (t : TI G 9 τ f) (u0 : Nat) (hu0 : τ u0 = 45) (u1 : Int32) (hu1 : iv u1 1 3) (u2 : Int32) (hu2 : iv u2 0 6) (wh : Int32) (hwh : iv wh 1 1) (k_u0_3 : atp f u0 (fd 3 (.int wh))) : mI l yX3_failing cX3_failing 3 (.int) rm_s_X3_failingb D G b0 f [.ref u0, .int u1, .int u2] (fun r f1 => iv r (-2) 60 ∧ TI G 9 τ f1 ∧ Fr [40, 41, 42, 48, 40002, 40003, 40004] τ f f1) := by
  refine met2 (own := RX3) (by decide) rfl (Nat.le_of_ble_eq_true rfl) ?_
  intro p e s m args below meth c ls Q hQ C hr hini hl h
  have hl : lv_has ls 3 [(0, .ref u0), (1, .int u1), (2, .int u2)] := hl
  obtain ⟨hx, hb, hml, hown, hts, hE0, hlk⟩ := id C
  have o := Fr.rf [40, 41, 42, 48, 40002, 40003, 40004] τ f
  refine lv_aload_n hx hb dX3_failing_0 rfl (lv_at hl 0 rfl) ?_
  refine lv_iload_n hx hb dX3_failing_1 rfl (lv_at hl 1 rfl) ?_
  refine lv_iload_n hx hb dX3_failing_2 rfl (lv_at hl 2 rfl) ?_
  obtain ⟨_, r1⟩ := t_rec t hu0 (by decide) wf_45
  refine k_i (r_V C h hl (As := [.int u1, .int u2]) (rest := []) (s_X3_solveb l D G b0 τ f t u0 hu0 u1 hu1 u2 hu2 wh hwh k_u0_3) r1 (Cn := RX3) (T := TX3) (N := 4) rfl rfl mk_X3_solve w_1048 w_1050 w_28 w_1051 ⟨Nat.le_of_ble_eq_true rfl, Nat.le_of_ble_eq_true rfl⟩ rfl (Nat.le_of_ble_eq_true rfl) ⟨Nat.le_of_ble_eq_true rfl, Nat.le_of_ble_eq_true rfl⟩ rfl dX3_failing_3) h (fun r2 f3 H locs p4 h => ?_)
  obtain ⟨ir2, tf3, ogf3⟩ := p4
  have of3 : Fr [40, 41, 42, 48, 40002, 40003, 40004] τ f f3 := Fr.tr o ogf3 (by decide) (by decide)
  have k5 := atp.fr k_u0_3 ogf3 hu0 (by decide)
  refine lv_if_eq (tgt := 18) hx hb dX3_failing_6 (by decide) (fun c6 => ?_) (fun c6 => ?_)
  · have c7 : r2.toInt = 0 := congrArg Int32.toInt c6
    have i8 : iv r2 0 0 := iv_Q c7 ir2 (iv_k (x := 0) (k := 0) rfl) (by decide)
    refine lv_bipush (v := -2) hx hb dX3_failing_18 (by decide) ?_
    exact u_iret C h hr hQ (⟨⟨by decide, by decide⟩, tf3, of3⟩) (Nat.le_of_ble_eq_true rfl) (Nat.le_of_ble_eq_true rfl) dX3_failing_20
  · have c9 : r2.toInt ≠ 0 := fun z_ => c6 (Int32.toInt_inj.mp z_)
    have i10 : iv r2 1 1 := iv_Nl c9 ir2 (by decide)
    refine lv_aload_n hx hb dX3_failing_9 rfl (lv_at hl 0 rfl) ?_
    refine lv_iload_n hx hb dX3_failing_10 rfl (lv_at hl 1 rfl) ?_
    refine lv_iload_n hx hb dX3_failing_11 rfl (lv_at hl 2 rfl) ?_
    obtain ⟨_, r11⟩ := t_rec tf3 hu0 (by decide) wf_45
    refine k_i (r_V C h hl (As := [.int u1, .int u2]) (rest := []) (s_X3_firstMissb l D G b0 τ f3 tf3 u0 hu0 u1 hu1 u2 hu2 wh hwh k5) r11 (Cn := RX3) (T := TX3) (N := 4) rfl rfl mk_X3_firstMiss w_1075 w_1077 w_30 w_1078 ⟨Nat.le_of_ble_eq_true rfl, Nat.le_of_ble_eq_true rfl⟩ rfl (Nat.le_of_ble_eq_true rfl) ⟨Nat.le_of_ble_eq_true rfl, Nat.le_of_ble_eq_true rfl⟩ rfl dX3_failing_12) h (fun r12 f13 H locs p14 h => ?_)
    obtain ⟨ir12, tf13, ogf13⟩ := p14
    have egf13 := Fr.nil2 ogf13
    subst egf13
    refine lv_goto (tgt := 20) hx hb dX3_failing_15 (by decide) ?_
    exact u_iret C h hr hQ (⟨(iv_w ir12 (by decide)), tf3, of3⟩) (Nat.le_of_ble_eq_true rfl) (Nat.le_of_ble_eq_true rfl) dX3_failing_20
abbrev rm_s_X3_smallestb : Room := { frames := 4, cells := 0, slots := 0, locals := 99 }
set_option maxRecDepth 100000 in
set_option maxHeartbeats 4000000 in
theorem s_X3_smallestb (l : Launch) (D : va_G) (G : Nat → Nat) (b0 : Nat) (τ : Nat → Nat) (f : hM) (t : TI G 9 τ f) (u0 : Nat) (hu0 : τ u0 = 45) (wh : Int32) (hwh : iv wh 1 1) (k_u0_3 : atp f u0 (fd 3 (.int wh))) : mI l yX3_smallest cX3_smallest 5 (.int) rm_s_X3_smallestb D G b0 f [.ref u0] (fun r f1 => iv r (-1) 36 ∧ TI G 9 τ f1 ∧ Fr [40, 41, 42, 48, 40002, 40003, 40004] τ f f1) := by
  refine met2 (own := RX3) (by decide) rfl (Nat.le_of_ble_eq_true rfl) ?_
  intro p e s m args below meth c ls Q hQ C hr hini hl h
  have hl : lv_has ls 5 [(0, .ref u0)] := hl
  obtain ⟨hx, hb, hml, hown, hts, hE0, hlk⟩ := id C
  have o := Fr.rf [40, 41, 42, 48, 40002, 40003, 40004] τ f
  have L2 : ∀ (n2 : Nat) (ls : Array Slot) (f_2 : hM) (H : Heap) (locs : List Loc) (v2_1 : Int32), 29 - v2_1.toInt < (n2 : Int) → lv_has ls 5 [(0, .ref u0), (1, .int v2_1)] → hw D b0 s.heap f_2 H locs → TI G 9 τ f_2 → Fr [40, 41, 42, 48, 40002, 40003, 40004] τ f f_2 → iv v2_1 2 29 → atp f_2 u0 (fd 3 (.int wh)) → W p l e rm_s_X3_smallestb s m args below meth c H locs 0 0 Q (F0 m 2 ls []) := by
    intro n2
    induction n2 with
    | zero => intro ls f_2 H locs v2_1 hm2 hl h t_2 o_2 iv2_1 k2_u0_3; exact absurd hm2 (by omega)
    | succ n2 ih2 =>
      intro ls f_2 H locs v2_1 hm2 hl h t_2 o_2 iv2_1 k2_u0_3
      have L10 : ∀ (n10 : Nat) (ls : Array Slot) (f_10 : hM) (H : Heap) (locs : List Loc) (v10_2 : Int32), 5 - v10_2.toInt < (n10 : Int) → lv_has ls 5 [(0, .ref u0), (1, .int v2_1), (2, .int v10_2)] → hw D b0 s.heap f_10 H locs → TI G 9 τ f_10 → Fr [40, 41, 42, 48, 40002, 40003, 40004] τ f f_10 → iv v2_1 2 28 → iv v10_2 1 5 → atp f_10 u0 (fd 3 (.int wh)) → W p l e rm_s_X3_smallestb s m args below meth c H locs 0 0 Q (F0 m 10 ls []) := by
        intro n10
        induction n10 with
        | zero => intro ls f_10 H locs v10_2 hm10 hl h t_10 o_10 jv10_1 iv10_2 k10_u0_3; exact absurd hm10 (by omega)
        | succ n10 ih10 =>
          intro ls f_10 H locs v10_2 hm10 hl h t_10 o_10 jv10_1 iv10_2 k10_u0_3
          refine lv_iload_n hx hb dX3_smallest_10 rfl (lv_at hl 2 rfl) ?_
          refine lv_iconst (v := 4) hx hb dX3_smallest_11 (by decide) ?_
          refine lv_icmp_gt (tgt := 87) hx hb dX3_smallest_12 (by decide) (fun c1 => ?_) (fun c1 => ?_)
          · have c2 : 4 < v10_2.toInt := Int32.lt_iff_toInt_lt.mp c1
            have i3 : iv v10_2 5 5 := iv_Lr c2 (iv_k (x := 4) (k := 4) rfl) iv10_2 (by decide)
            refine i_inc hx hb dX3_smallest_87 hl (k := 1) rfl jv10_1 rfl (lo := 3) (hi := 29) (by decide) (by decide) (lv' := fun v => [(1, .int v), (0, .ref u0), (2, .int v10_2)]) (fun _ => rfl) (fun z6 ls ez6 mz6 iz6 hl => ?_)
            refine lv_goto (tgt := 2) hx hb dX3_smallest_90 (by decide) ?_
            exact ih2 ls f_10 H locs z6 (show 29 - z6.toInt < _ by omega) (lv_cons hl 1 rfl (lv_cons hl 0 rfl (lv_nil hl))) h t_10 o_10 (iv_w iz6 (by decide)) k10_u0_3
          · have c4 : v10_2.toInt ≤ 4 := Int32.le_iff_toInt_le.mp (iv_nlt c1)
            have i5 : iv v10_2 1 4 := iv_El c4 iv10_2 (iv_k (x := 4) (k := 4) rfl) (by decide)
            refine lv_iload_n hx hb dX3_smallest_15 rfl (lv_at hl 1 rfl) ?_
            refine lv_iload_n hx hb dX3_smallest_16 rfl (lv_at hl 2 rfl) ?_
            refine lv_iconst (v := 1) hx hb dX3_smallest_17 (by decide) ?_
            refine i_addk hx hb dX3_smallest_18 i5 (k := 1) rfl (lo := 2) (hi := 5) (by decide) (fun z7 ez7 mz7 iz7 => ?_)
            refine lv_idiv hx hb dX3_smallest_19 (iv_nz iz7 (by decide)) (i_top (iv_divp (iv_w jv10_1 (by decide) : iv _ 0 28) iz7 (by decide)) (fun z8 ez8 iz8 => ?_))
            refine lv_iconst (v := 1) hx hb dX3_smallest_20 (by decide) ?_
            refine i_subk hx hb dX3_smallest_21 iz8 (k := 1) rfl (lo := (-1)) (hi := 27) (by decide) (fun z9 ez9 mz9 iz9 => ?_)
            refine lv_istore_n (lv' := [(3, .int z9), (0, .ref u0), (1, .int v2_1), (2, .int v10_2)]) hx hb dX3_smallest_22 rfl hl (by decide) rfl (fun ls hl => ?_)
            refine lv_iload_n hx hb dX3_smallest_23 rfl (lv_at hl 2 rfl) ?_
            refine lv_iload_n hx hb dX3_smallest_24 rfl (lv_at hl 3 rfl) ?_
            refine lv_iconst (v := 1) hx hb dX3_smallest_25 (by decide) ?_
            refine i_addk hx hb dX3_smallest_26 i5 (k := 1) rfl (lo := 2) (hi := 5) (by decide) (fun z10 ez10 mz10 iz10 => ?_)
            refine lv_irem hx hb dX3_smallest_27 (iv_nz iz10 (by decide)) (i_topm (P := fun q_ => q_ < Int32.toInt z10 ∧ q_ ≤ Int32.toInt v2_1) (iv_remm (iv_w jv10_1 (by decide) : iv _ 0 28) iz10 (by decide)) (fun z11 ez11 mz11 iz11 => ?_))
            refine lv_if_ne (tgt := 47) hx hb dX3_smallest_28 (by decide) (fun c12 => ?_) (fun c12 => ?_)
            · have c13 : z11.toInt ≠ 0 := fun z_ => c12 (Int32.toInt_inj.mp z_)
              have i14 : iv z11 1 4 := iv_Nl c13 iz11 (by decide)
              refine lv_iconst (v := 0) hx hb dX3_smallest_47 (by decide) ?_
              refine lv_istore (lv' := [(4, .int 0), (3, .int z9), (0, .ref u0), (1, .int v2_1), (2, .int v10_2)]) hx hb dX3_smallest_48 hl (by decide) rfl (fun ls hl => ?_)
              refine lv_iload hx hb dX3_smallest_50 (lv_at hl 0 rfl) ?_
              refine lv_if_eq (tgt := 81) hx hb dX3_smallest_52 (by decide) (fun c17 => ?_) (fun c17 => ?_)
              · refine i_inc hx hb dX3_smallest_81 hl (k := 4) rfl i5 rfl (lo := 2) (hi := 5) (by decide) (by decide) (lv' := fun v => [(2, .int v), (4, .int 0), (3, .int z9), (0, .ref u0), (1, .int v2_1)]) (fun _ => rfl) (fun z20 ls ez20 mz20 iz20 hl => ?_)
                refine lv_goto (tgt := 10) hx hb dX3_smallest_84 (by decide) ?_
                exact ih10 ls f_10 H locs z20 (show 5 - z20.toInt < _ by omega) (lv_cons hl 3 rfl (lv_cons hl 4 rfl (lv_cons hl 0 rfl (lv_nil hl)))) h t_10 o_10 jv10_1 (iv_w iz20 (by decide)) k10_u0_3
              · exact absurd c17 (by decide)
            · have c15 : z11.toInt = 0 := congrArg Int32.toInt c12
              have i16 : iv z11 0 0 := iv_Q c15 iz11 (iv_k (x := 0) (k := 0) rfl) (by decide)
              refine lv_aload_n hx hb dX3_smallest_31 rfl (lv_at hl 1 rfl) ?_
              refine t_getfd C h t_10 hu0 (by decide) wf_45 (v := .int wh) k10_u0_3 fl_X3_30 dX3_smallest_32 ?_
              refine lv_iload_n hx hb dX3_smallest_35 rfl (lv_at hl 3 rfl) ?_
              refine lv_iload_n hx hb dX3_smallest_36 rfl (lv_at hl 0 rfl) ?_
              refine k_i (r_S C h hl (As := [.int wh, .int v10_2, .int z9]) (rest := []) (s_X3_isShapeb l D G b0 τ f_10 t_10 wh hwh v10_2 (iv_w i5 (by decide)) z9 (iv_w iz9 (by decide))) mk_X3_isShape w_1095 w_1031 w_1032 ⟨Nat.le_of_ble_eq_true rfl, Nat.le_of_ble_eq_true rfl⟩ rfl (Nat.le_of_ble_eq_true rfl) ⟨Nat.le_of_ble_eq_true rfl, Nat.le_of_ble_eq_true rfl⟩ rfl dX3_smallest_37) h (fun r21 f22 H locs p23 h => ?_)
              obtain ⟨ir21, tf22, ogf22, cnr21⟩ := p23
              have egf22 := Fr.nil2 ogf22
              subst egf22
              refine lv_if_eq (tgt := 47) hx hb dX3_smallest_40 (by decide) (fun c24 => ?_) (fun c24 => ?_)
              · have c25 : r21.toInt = 0 := congrArg Int32.toInt c24
                have i26 : iv r21 0 0 := iv_Q c25 ir21 (iv_k (x := 0) (k := 0) rfl) (by decide)
                refine lv_iconst (v := 0) hx hb dX3_smallest_47 (by decide) ?_
                refine lv_istore (lv' := [(4, .int 0), (3, .int z9), (0, .ref u0), (1, .int v2_1), (2, .int v10_2)]) hx hb dX3_smallest_48 hl (by decide) rfl (fun ls hl => ?_)
                refine lv_iload hx hb dX3_smallest_50 (lv_at hl 0 rfl) ?_
                refine lv_if_eq (tgt := 81) hx hb dX3_smallest_52 (by decide) (fun c31 => ?_) (fun c31 => ?_)
                · refine i_inc hx hb dX3_smallest_81 hl (k := 4) rfl i5 rfl (lo := 2) (hi := 5) (by decide) (by decide) (lv' := fun v => [(2, .int v), (4, .int 0), (3, .int z9), (0, .ref u0), (1, .int v2_1)]) (fun _ => rfl) (fun z34 ls ez34 mz34 iz34 hl => ?_)
                  refine lv_goto (tgt := 10) hx hb dX3_smallest_84 (by decide) ?_
                  exact ih10 ls f_10 H locs z34 (show 5 - z34.toInt < _ by omega) (lv_cons hl 3 rfl (lv_cons hl 4 rfl (lv_cons hl 0 rfl (lv_nil hl)))) h t_10 o_10 jv10_1 (iv_w iz34 (by decide)) k10_u0_3
                · exact absurd c31 (by decide)
              · have c27 : r21.toInt ≠ 0 := fun z_ => c24 (Int32.toInt_inj.mp z_)
                have i28 : iv r21 1 1 := iv_Nl c27 ir21 (by decide)
                obtain ⟨i29, i30⟩ := cnr21 c27
                refine lv_iconst (v := 1) hx hb dX3_smallest_43 (by decide) ?_
                refine lv_goto (tgt := 48) hx hb dX3_smallest_44 (by decide) ?_
                refine lv_istore (lv' := [(4, .int 1), (3, .int z9), (0, .ref u0), (1, .int v2_1), (2, .int v10_2)]) hx hb dX3_smallest_48 hl (by decide) rfl (fun ls hl => ?_)
                refine lv_iload hx hb dX3_smallest_50 (lv_at hl 0 rfl) ?_
                refine lv_if_eq (tgt := 81) hx hb dX3_smallest_52 (by decide) (fun c35 => ?_) (fun c35 => ?_)
                · exact absurd c35 (by decide)
                · refine lv_aload_n hx hb dX3_smallest_55 rfl (lv_at hl 2 rfl) ?_
                  refine lv_iload_n hx hb dX3_smallest_56 rfl (lv_at hl 4 rfl) ?_
                  refine lv_iload_n hx hb dX3_smallest_57 rfl (lv_at hl 1 rfl) ?_
                  obtain ⟨_, r38⟩ := t_rec t_10 hu0 (by decide) wf_45
                  refine k_i (r_V C h hl (As := [.int v10_2, .int z9]) (rest := []) (s_X3_solveb l D G b0 τ f_10 t_10 u0 hu0 v10_2 i29 z9 i30 wh hwh k10_u0_3) r38 (Cn := RX3) (T := TX3) (N := 4) rfl rfl mk_X3_solve w_1048 w_1050 w_28 w_1051 ⟨Nat.le_of_ble_eq_true rfl, Nat.le_of_ble_eq_true rfl⟩ rfl (Nat.le_of_ble_eq_true rfl) ⟨Nat.le_of_ble_eq_true rfl, Nat.le_of_ble_eq_true rfl⟩ rfl dX3_smallest_58) h (fun r39 f40 H locs p41 h => ?_)
                  obtain ⟨ir39, tf40, ogf40⟩ := p41
                  have of40 : Fr [40, 41, 42, 48, 40002, 40003, 40004] τ f f40 := Fr.tr o_10 ogf40 (by decide) (by decide)
                  have k42 := atp.fr k10_u0_3 ogf40 hu0 (by decide)
                  refine lv_if_eq (tgt := 81) hx hb dX3_smallest_61 (by decide) (fun c43 => ?_) (fun c43 => ?_)
                  · have c44 : r39.toInt = 0 := congrArg Int32.toInt c43
                    have i45 : iv r39 0 0 := iv_Q c44 ir39 (iv_k (x := 0) (k := 0) rfl) (by decide)
                    refine i_inc hx hb dX3_smallest_81 hl (k := 4) rfl i29 rfl (lo := 2) (hi := 4) (by decide) (by decide) (lv' := fun v => [(2, .int v), (4, .int 1), (3, .int z9), (0, .ref u0), (1, .int v2_1)]) (fun _ => rfl) (fun z48 ls ez48 mz48 iz48 hl => ?_)
                    refine lv_goto (tgt := 10) hx hb dX3_smallest_84 (by decide) ?_
                    exact ih10 ls f40 H locs z48 (show 5 - z48.toInt < _ by omega) (lv_cons hl 3 rfl (lv_cons hl 4 rfl (lv_cons hl 0 rfl (lv_nil hl)))) h tf40 of40 jv10_1 (iv_w iz48 (by decide)) k42
                  · have c46 : r39.toInt ≠ 0 := fun z_ => c43 (Int32.toInt_inj.mp z_)
                    have i47 : iv r39 1 1 := iv_Nl c46 ir39 (by decide)
                    refine lv_aload_n hx hb dX3_smallest_64 rfl (lv_at hl 2 rfl) ?_
                    refine lv_iload_n hx hb dX3_smallest_65 rfl (lv_at hl 4 rfl) ?_
                    refine lv_iload_n hx hb dX3_smallest_66 rfl (lv_at hl 1 rfl) ?_
                    obtain ⟨_, r49⟩ := t_rec tf40 hu0 (by decide) wf_45
                    refine k_i (r_V C h hl (As := [.int v10_2, .int z9]) (rest := []) (s_X3_firstMissb l D G b0 τ f40 tf40 u0 hu0 v10_2 i29 z9 i30 wh hwh k42) r49 (Cn := RX3) (T := TX3) (N := 4) rfl rfl mk_X3_firstMiss w_1075 w_1077 w_30 w_1078 ⟨Nat.le_of_ble_eq_true rfl, Nat.le_of_ble_eq_true rfl⟩ rfl (Nat.le_of_ble_eq_true rfl) ⟨Nat.le_of_ble_eq_true rfl, Nat.le_of_ble_eq_true rfl⟩ rfl dX3_smallest_67) h (fun r50 f51 H locs p52 h => ?_)
                    obtain ⟨ir50, tf51, ogf51⟩ := p52
                    have egf51 := Fr.nil2 ogf51
                    subst egf51
                    refine lv_iconst (v := -1) hx hb dX3_smallest_70 (by decide) ?_
                    refine lv_icmp_ne (tgt := 81) hx hb dX3_smallest_71 (by decide) (fun c53 => ?_) (fun c53 => ?_)
                    · have c54 : r50.toInt ≠ (-1) := fun z_ => c53 (Int32.toInt_inj.mp z_)
                      have i55 : iv r50 0 60 := iv_Nl c54 ir50 (by decide)
                      refine i_inc hx hb dX3_smallest_81 hl (k := 4) rfl i29 rfl (lo := 2) (hi := 4) (by decide) (by decide) (lv' := fun v => [(2, .int v), (4, .int 1), (3, .int z9), (0, .ref u0), (1, .int v2_1)]) (fun _ => rfl) (fun z58 ls ez58 mz58 iz58 hl => ?_)
                      refine lv_goto (tgt := 10) hx hb dX3_smallest_84 (by decide) ?_
                      exact ih10 ls f40 H locs z58 (show 5 - z58.toInt < _ by omega) (lv_cons hl 3 rfl (lv_cons hl 4 rfl (lv_cons hl 0 rfl (lv_nil hl)))) h tf40 of40 jv10_1 (iv_w iz58 (by decide)) k42
                    · have c56 : r50.toInt = (-1) := congrArg Int32.toInt c53
                      have i57 : iv r50 (-1) (-1) := iv_Q c56 ir50 (iv_k (x := (-1)) (k := (-1)) rfl) (by decide)
                      refine lv_bipush (v := 10) hx hb dX3_smallest_74 (by decide) ?_
                      refine lv_iload_n hx hb dX3_smallest_76 rfl (lv_at hl 4 rfl) ?_
                      refine i_cmul hx hb dX3_smallest_77 (k := 10) rfl i29 (lo := 10) (hi := 30) (by decide) (fun z59 ez59 mz59 iz59 => ?_)
                      refine lv_iload_n hx hb dX3_smallest_78 rfl (lv_at hl 1 rfl) ?_
                      refine i_add hx hb dX3_smallest_79 iz59 i30 (lo := 10) (hi := 36) (by decide) (fun z60 ez60 mz60 iz60 => ?_)
                      exact u_iret C h hr hQ (⟨(iv_w iz60 (by decide)), tf40, of40⟩) (Nat.le_of_ble_eq_true rfl) (Nat.le_of_ble_eq_true rfl) dX3_smallest_80
      refine lv_iload_n hx hb dX3_smallest_2 rfl (lv_at hl 1 rfl) ?_
      refine lv_bipush (v := 28) hx hb dX3_smallest_3 (by decide) ?_
      refine lv_icmp_gt (tgt := 93) hx hb dX3_smallest_5 (by decide) (fun c61 => ?_) (fun c61 => ?_)
      · have c62 : 28 < v2_1.toInt := Int32.lt_iff_toInt_lt.mp c61
        have i63 : iv v2_1 29 29 := iv_Lr c62 (iv_k (x := 28) (k := 28) rfl) iv2_1 (by decide)
        refine lv_iconst (v := -1) hx hb dX3_smallest_93 (by decide) ?_
        exact u_iret C h hr hQ (⟨⟨by decide, by decide⟩, t_2, o_2⟩) (Nat.le_of_ble_eq_true rfl) (Nat.le_of_ble_eq_true rfl) dX3_smallest_94
      · have c64 : v2_1.toInt ≤ 28 := Int32.le_iff_toInt_le.mp (iv_nlt c61)
        have i65 : iv v2_1 2 28 := iv_El c64 iv2_1 (iv_k (x := 28) (k := 28) rfl) (by decide)
        refine lv_iconst (v := 1) hx hb dX3_smallest_8 (by decide) ?_
        refine lv_istore_n (lv' := [(2, .int 1), (0, .ref u0), (1, .int v2_1)]) hx hb dX3_smallest_9 rfl hl (by decide) rfl (fun ls hl => ?_)
        exact L10 5 ls f_2 H locs 1 (by decide) (lv_cons hl 1 rfl (lv_cons hl 2 rfl (lv_cons hl 0 rfl (lv_nil hl)))) h t_2 o_2 i65 ⟨by decide, by decide⟩ k2_u0_3
  refine lv_iconst (v := 2) hx hb dX3_smallest_0 (by decide) ?_
  refine lv_istore_n (lv' := [(1, .int 2), (0, .ref u0)]) hx hb dX3_smallest_1 rfl hl (by decide) rfl (fun ls hl => ?_)
  exact L2 28 ls f s.heap [] 2 (by decide) (lv_cons hl 1 rfl (lv_cons hl 0 rfl (lv_nil hl))) h t o ⟨by decide, by decide⟩ k_u0_3
