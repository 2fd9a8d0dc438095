theorem dX2_cell_0 : decode cX2_cell 0 = .ok (.iload_n 1, 1) := by decide +kernel
theorem dX2_cell_1 : decode cX2_cell 1 = .ok (.aload_n 0, 1) := by decide +kernel
theorem dX2_cell_2 : decode cX2_cell 2 = .ok (.getfield 55, 3) := by decide +kernel
theorem w_247 : Cond.lays "QuarterWalks$Grid" "QuarterWalks$Grid" "now" "[J" ∈ wAll := wI1 152 (by decide +kernel) (by decide +kernel)
theorem w_249 : Cond.lays "QuarterWalks$Grid" "QuarterWalks$Grid" "next" "[J" ∈ wAll := wI1 154 (by decide +kernel) (by decide +kernel)
theorem w_251 : Cond.laysFinal "QuarterWalks$Grid" "QuarterWalks$Grid" "room" "LQuarterWalks$Box;" ∈ wAll := wI1 156 (by decide +kernel) (by decide +kernel)
theorem w_253 : Cond.laysFinal "QuarterWalks$Grid" "QuarterWalks$Grid" "reach" "LQuarterWalks$Box;" ∈ wAll := wI1 158 (by decide +kernel) (by decide +kernel)
theorem w_255 : Cond.laysFinal "QuarterWalks$Grid" "QuarterWalks$Grid" "shifts" "[I" ∈ wAll := wI1 160 (by decide +kernel) (by decide +kernel)
theorem w_257 : Cond.laysFinal "QuarterWalks$Grid" "QuarterWalks$Grid" "worths" "[J" ∈ wAll := wI1 162 (by decide +kernel) (by decide +kernel)
theorem w_259 : Cond.lays "QuarterWalks$Grid" "QuarterWalks$Grid" "used" "I" ∈ wAll := wI1 164 (by decide +kernel) (by decide +kernel)
theorem w_261 : Cond.lays "QuarterWalks$Grid" "QuarterWalks$Grid" "bits" "I" ∈ wAll := wI1 166 (by decide +kernel) (by decide +kernel)
theorem w_263 : Cond.lays "QuarterWalks$Grid" "QuarterWalks$Grid" "mode" "I" ∈ wAll := wI1 168 (by decide +kernel) (by decide +kernel)
theorem w_265 : Cond.lays "QuarterWalks$Grid" "QuarterWalks$Grid" "startX" "I" ∈ wAll := wI1 170 (by decide +kernel) (by decide +kernel)
theorem w_267 : Cond.lays "QuarterWalks$Grid" "QuarterWalks$Grid" "startY" "I" ∈ wAll := wI1 172 (by decide +kernel) (by decide +kernel)
theorem inA_X2 : ∀ w ∈ u_ws RX2 TX2 11, w ∈ wAll := List.forall_mem_cons.mpr ⟨w_247, List.forall_mem_cons.mpr ⟨w_249, List.forall_mem_cons.mpr ⟨w_251, List.forall_mem_cons.mpr ⟨w_253, List.forall_mem_cons.mpr ⟨w_255, List.forall_mem_cons.mpr ⟨w_257, List.forall_mem_cons.mpr ⟨w_259, List.forall_mem_cons.mpr ⟨w_261, List.forall_mem_cons.mpr ⟨w_263, List.forall_mem_cons.mpr ⟨w_265, List.forall_mem_cons.mpr ⟨w_267, fun _ h => absurd h List.not_mem_nil⟩⟩⟩⟩⟩⟩⟩⟩⟩⟩⟩
theorem w_245 : Cond.fieldLink "QuarterWalks$Grid" 55 "QuarterWalks$Grid" "startX" "I" ∈ wAll := wI1 150 (by decide +kernel) (by decide +kernel)
theorem fl_X2_55 : fl RX2 55 3 9 := ⟨RX2, TX2, 11, rfl, inA_X2, by decide, w_245⟩
theorem dX2_cell_5 : decode cX2_cell 5 = .ok (.isub, 1) := by decide +kernel
theorem dX2_cell_6 : decode cX2_cell 6 = .ok (.bipush 61, 2) := by decide +kernel
theorem dX2_cell_8 : decode cX2_cell 8 = .ok (.iadd, 1) := by decide +kernel
theorem dX2_cell_9 : decode cX2_cell 9 = .ok (.bipush 123, 2) := by decide +kernel
theorem dX2_cell_11 : decode cX2_cell 11 = .ok (.imul, 1) := by decide +kernel
theorem dX2_cell_12 : decode cX2_cell 12 = .ok (.iload_n 2, 1) := by decide +kernel
theorem dX2_cell_13 : decode cX2_cell 13 = .ok (.iadd, 1) := by decide +kernel
theorem dX2_cell_14 : decode cX2_cell 14 = .ok (.aload_n 0, 1) := by decide +kernel
theorem dX2_cell_15 : decode cX2_cell 15 = .ok (.getfield 59, 3) := by decide +kernel
theorem w_246 : Cond.fieldLink "QuarterWalks$Grid" 59 "QuarterWalks$Grid" "startY" "I" ∈ wAll := wI1 151 (by decide +kernel) (by decide +kernel)
theorem fl_X2_59 : fl RX2 59 3 10 := ⟨RX2, TX2, 11, rfl, inA_X2, by decide, w_246⟩
theorem dX2_cell_18 : decode cX2_cell 18 = .ok (.isub, 1) := by decide +kernel
theorem dX2_cell_19 : decode cX2_cell 19 = .ok (.bipush 61, 2) := by decide +kernel
theorem dX2_cell_21 : decode cX2_cell 21 = .ok (.iadd, 1) := by decide +kernel
theorem dX2_cell_22 : decode cX2_cell 22 = .ok (.ireturn, 1) := by decide +kernel
theorem dX2_wipe_0 : decode cX2_wipe 0 = .ok (.aload_n 0, 1) := by decide +kernel
theorem dX2_wipe_1 : decode cX2_wipe 1 = .ok (.getfield 25, 3) := by decide +kernel
theorem w_239 : Cond.fieldLink "QuarterWalks$Grid" 25 "QuarterWalks$Grid" "reach" "LQuarterWalks$Box;" ∈ wAll := wI1 144 (by decide +kernel) (by decide +kernel)
theorem fl_X2_25 : fl RX2 25 3 3 := ⟨RX2, TX2, 11, rfl, inA_X2, by decide, w_239⟩
theorem dX2_wipe_4 : decode cX2_wipe 4 = .ok (.getfield 60, 3) := by decide +kernel
theorem w_219 : Cond.fieldLink "QuarterWalks$Grid" 60 "QuarterWalks$Box" "left" "I" ∈ wAll := wI1 124 (by decide +kernel) (by decide +kernel)
theorem fl_X2_60 : fl RX2 60 2 0 := ⟨RX1, TX1, 4, rfl, inA_X1, by decide, w_219⟩
theorem dX2_wipe_7 : decode cX2_wipe 7 = .ok (.istore_n 1, 1) := by decide +kernel
theorem dX2_wipe_8 : decode cX2_wipe 8 = .ok (.iload_n 1, 1) := by decide +kernel
theorem dX2_wipe_9 : decode cX2_wipe 9 = .ok (.aload_n 0, 1) := by decide +kernel
theorem dX2_wipe_10 : decode cX2_wipe 10 = .ok (.getfield 25, 3) := by decide +kernel
theorem dX2_wipe_13 : decode cX2_wipe 13 = .ok (.getfield 66, 3) := by decide +kernel
theorem w_223 : Cond.fieldLink "QuarterWalks$Grid" 66 "QuarterWalks$Box" "right" "I" ∈ wAll := wI1 128 (by decide +kernel) (by decide +kernel)
theorem fl_X2_66 : fl RX2 66 2 2 := ⟨RX1, TX1, 4, rfl, inA_X1, by decide, w_223⟩
theorem dX2_wipe_16 : decode cX2_wipe 16 = .ok (.if_icmp .gt 60, 3) := by decide +kernel
theorem dX2_wipe_19 : decode cX2_wipe 19 = .ok (.aload_n 0, 1) := by decide +kernel
theorem dX2_wipe_20 : decode cX2_wipe 20 = .ok (.iload_n 1, 1) := by decide +kernel
theorem dX2_wipe_21 : decode cX2_wipe 21 = .ok (.aload_n 0, 1) := by decide +kernel
theorem dX2_wipe_22 : decode cX2_wipe 22 = .ok (.getfield 25, 3) := by decide +kernel
theorem dX2_wipe_25 : decode cX2_wipe 25 = .ok (.getfield 69, 3) := by decide +kernel
theorem w_225 : Cond.fieldLink "QuarterWalks$Grid" 69 "QuarterWalks$Box" "top" "I" ∈ wAll := wI1 130 (by decide +kernel) (by decide +kernel)
theorem fl_X2_69 : fl RX2 69 2 3 := ⟨RX1, TX1, 4, rfl, inA_X1, by decide, w_225⟩
theorem dX2_wipe_28 : decode cX2_wipe 28 = .ok (.invokevirtual 76, 3) := by decide +kernel
theorem w_671 : Cond.methodLink "QuarterWalks$Grid" 76 yX2_cell ∈ wAll := wI3 96 (by decide +kernel) (by decide +kernel)
theorem w_12 : Cond.selects yX2_cell.cls yX2_cell yX2_cell ∈ wAll := wIn 12 (by decide +kernel) (by decide +kernel)
theorem w_100 : Cond.initialized "QuarterWalks$Grid" ∈ wAll := wI1 5 (by decide +kernel) (by decide +kernel)
theorem mk_X2_cell : mk yX2_cell 2 := ⟨by decide +kernel, w_100⟩
theorem w_673 : Cond.instanceMethod yX2_cell ∈ wAll := wI3 98 (by decide +kernel) (by decide +kernel)
theorem w_674 : Cond.code yX2_cell cX2_cell 3 (some .int) ∈ wAll := wI3 99 (by decide +kernel) (by decide +kernel)
theorem dX2_wipe_31 : decode cX2_wipe 31 = .ok (.istore_n 2, 1) := by decide +kernel
theorem dX2_wipe_32 : decode cX2_wipe 32 = .ok (.aload_n 0, 1) := by decide +kernel
theorem dX2_wipe_33 : decode cX2_wipe 33 = .ok (.iload_n 1, 1) := by decide +kernel
theorem dX2_wipe_34 : decode cX2_wipe 34 = .ok (.aload_n 0, 1) := by decide +kernel
theorem dX2_wipe_35 : decode cX2_wipe 35 = .ok (.getfield 25, 3) := by decide +kernel
theorem dX2_wipe_38 : decode cX2_wipe 38 = .ok (.getfield 63, 3) := by decide +kernel
theorem w_221 : Cond.fieldLink "QuarterWalks$Grid" 63 "QuarterWalks$Box" "bottom" "I" ∈ wAll := wI1 126 (by decide +kernel) (by decide +kernel)
theorem fl_X2_63 : fl RX2 63 2 1 := ⟨RX1, TX1, 4, rfl, inA_X1, by decide, w_221⟩
theorem dX2_wipe_41 : decode cX2_wipe 41 = .ok (.invokevirtual 76, 3) := by decide +kernel
theorem dX2_wipe_44 : decode cX2_wipe 44 = .ok (.istore_n 3, 1) := by decide +kernel
theorem dX2_wipe_45 : decode cX2_wipe 45 = .ok (.iload_n 3, 1) := by decide +kernel
theorem dX2_wipe_46 : decode cX2_wipe 46 = .ok (.iload_n 2, 1) := by decide +kernel
theorem dX2_wipe_47 : decode cX2_wipe 47 = .ok (.if_icmp .gt 23, 3) := by decide +kernel
theorem dX2_wipe_70 : decode cX2_wipe 70 = .ok (.iinc 1 1, 3) := by decide +kernel
theorem dX2_wipe_73 : decode cX2_wipe 73 = .ok (.goto (-65), 3) := by decide +kernel
theorem dX2_wipe_50 : decode cX2_wipe 50 = .ok (.aload_n 0, 1) := by decide +kernel
theorem dX2_wipe_51 : decode cX2_wipe 51 = .ok (.getfield 11, 3) := by decide +kernel
theorem w_236 : Cond.fieldLink "QuarterWalks$Grid" 11 "QuarterWalks$Grid" "now" "[J" ∈ wAll := wI1 141 (by decide +kernel) (by decide +kernel)
theorem fl_X2_11 : fl RX2 11 3 0 := ⟨RX2, TX2, 11, rfl, inA_X2, by decide, w_236⟩
theorem dX2_wipe_54 : decode cX2_wipe 54 = .ok (.iload_n 3, 1) := by decide +kernel
theorem dX2_wipe_55 : decode cX2_wipe 55 = .ok (.lconst 0, 1) := by decide +kernel
theorem dX2_wipe_56 : decode cX2_wipe 56 = .ok (.lastore, 1) := by decide +kernel
theorem dX2_wipe_57 : decode cX2_wipe 57 = .ok (.aload_n 0, 1) := by decide +kernel
theorem dX2_wipe_58 : decode cX2_wipe 58 = .ok (.getfield 15, 3) := by decide +kernel
theorem w_237 : Cond.fieldLink "QuarterWalks$Grid" 15 "QuarterWalks$Grid" "next" "[J" ∈ wAll := wI1 142 (by decide +kernel) (by decide +kernel)
theorem fl_X2_15 : fl RX2 15 3 1 := ⟨RX2, TX2, 11, rfl, inA_X2, by decide, w_237⟩
theorem dX2_wipe_61 : decode cX2_wipe 61 = .ok (.iload_n 3, 1) := by decide +kernel
theorem dX2_wipe_62 : decode cX2_wipe 62 = .ok (.lconst 0, 1) := by decide +kernel
theorem dX2_wipe_63 : decode cX2_wipe 63 = .ok (.lastore, 1) := by decide +kernel
theorem dX2_wipe_64 : decode cX2_wipe 64 = .ok (.iinc 3 1, 3) := by decide +kernel
theorem dX2_wipe_67 : decode cX2_wipe 67 = .ok (.goto (-22), 3) := by decide +kernel
theorem dX2_wipe_76 : decode cX2_wipe 76 = .ok (.return_, 1) := by decide +kernel
theorem dX2_takeSteps_0 : decode cX2_takeSteps 0 = .ok (.aload_n 0, 1) := by decide +kernel
theorem dX2_takeSteps_1 : decode cX2_takeSteps 1 = .ok (.iconst 0, 1) := by decide +kernel
theorem dX2_takeSteps_2 : decode cX2_takeSteps 2 = .ok (.putfield 85, 3) := by decide +kernel
theorem w_242 : Cond.fieldLink "QuarterWalks$Grid" 85 "QuarterWalks$Grid" "used" "I" ∈ wAll := wI1 147 (by decide +kernel) (by decide +kernel)
theorem flw_X2_85 : flw RX2 85 3 6 (.int) := ⟨RX2, TX2, 11, tyX2, rfl, inA_X2, by decide, w_242, tyX2_ok, nmX2, by decide +kernel, Or.inl rfl⟩
theorem dX2_takeSteps_5 : decode cX2_takeSteps 5 = .ok (.aload_n 0, 1) := by decide +kernel
theorem dX2_takeSteps_6 : decode cX2_takeSteps 6 = .ok (.aload_n 1, 1) := by decide +kernel
theorem dX2_takeSteps_7 : decode cX2_takeSteps 7 = .ok (.invokevirtual 88, 3) := by decide +kernel
theorem w_679 : Cond.methodLink "QuarterWalks$Grid" 88 yX6_bits ∈ wAll := wI3 104 (by decide +kernel) (by decide +kernel)
theorem w_681 : Cond.selects yX6_bits.cls yX6_bits yX6_bits ∈ wAll := wI3 106 (by decide +kernel) (by decide +kernel)
theorem w_115 : Cond.initialized "QuarterWalks$StepSet" ∈ wAll := wI1 20 (by decide +kernel) (by decide +kernel)
theorem mk_X6_bits : mk yX6_bits 0 := ⟨by decide +kernel, w_115⟩
theorem w_680 : Cond.instanceMethod yX6_bits ∈ wAll := wI3 105 (by decide +kernel) (by decide +kernel)
theorem w_682 : Cond.code yX6_bits cX6_bits 3 (some .int) ∈ wAll := wI3 107 (by decide +kernel) (by decide +kernel)
theorem dX2_takeSteps_10 : decode cX2_takeSteps 10 = .ok (.putfield 92, 3) := by decide +kernel
theorem w_243 : Cond.fieldLink "QuarterWalks$Grid" 92 "QuarterWalks$Grid" "bits" "I" ∈ wAll := wI1 148 (by decide +kernel) (by decide +kernel)
theorem flw_X2_92 : flw RX2 92 3 7 (.int) := ⟨RX2, TX2, 11, tyX2, rfl, inA_X2, by decide, w_243, tyX2_ok, nmX2, by decide +kernel, Or.inl rfl⟩
theorem dX2_takeSteps_13 : decode cX2_takeSteps 13 = .ok (.iconst 0, 1) := by decide +kernel
theorem dX2_takeSteps_14 : decode cX2_takeSteps 14 = .ok (.istore_n 2, 1) := by decide +kernel
theorem dX2_takeSteps_15 : decode cX2_takeSteps 15 = .ok (.iload_n 2, 1) := by decide +kernel
theorem dX2_takeSteps_16 : decode cX2_takeSteps 16 = .ok (.bipush 8, 2) := by decide +kernel
theorem dX2_takeSteps_18 : decode cX2_takeSteps 18 = .ok (.if_icmp .ge 86, 3) := by decide +kernel
theorem dX2_takeSteps_21 : decode cX2_takeSteps 21 = .ok (.aload_n 1, 1) := by decide +kernel
theorem dX2_takeSteps_22 : decode cX2_takeSteps 22 = .ok (.getfield 94, 3) := by decide +kernel
theorem w_556 : Cond.fieldLink "QuarterWalks$Grid" 94 "QuarterWalks$StepSet" "weights" "[I" ∈ wAll := wI2 221 (by decide +kernel) (by decide +kernel)
theorem fl_X2_94 : fl RX2 94 7 0 := ⟨RX6, TX6, 4, rfl, inA_X6, by decide, w_556⟩
theorem dX2_takeSteps_25 : decode cX2_takeSteps 25 = .ok (.iload_n 2, 1) := by decide +kernel
theorem dX2_takeSteps_26 : decode cX2_takeSteps 26 = .ok (.iaload, 1) := by decide +kernel
theorem dX2_takeSteps_27 : decode cX2_takeSteps 27 = .ok (.ifCond .eq 71, 3) := by decide +kernel
theorem dX2_takeSteps_98 : decode cX2_takeSteps 98 = .ok (.iinc 2 1, 3) := by decide +kernel
theorem dX2_takeSteps_101 : decode cX2_takeSteps 101 = .ok (.goto (-86), 3) := by decide +kernel
theorem dX2_takeSteps_30 : decode cX2_takeSteps 30 = .ok (.aload_n 0, 1) := by decide +kernel
theorem dX2_takeSteps_31 : decode cX2_takeSteps 31 = .ok (.getfield 28, 3) := by decide +kernel
theorem w_240 : Cond.fieldLink "QuarterWalks$Grid" 28 "QuarterWalks$Grid" "shifts" "[I" ∈ wAll := wI1 145 (by decide +kernel) (by decide +kernel)
theorem fl_X2_28 : fl RX2 28 3 4 := ⟨RX2, TX2, 11, rfl, inA_X2, by decide, w_240⟩
theorem dX2_takeSteps_34 : decode cX2_takeSteps 34 = .ok (.aload_n 0, 1) := by decide +kernel
theorem dX2_takeSteps_35 : decode cX2_takeSteps 35 = .ok (.getfield 85, 3) := by decide +kernel
theorem fl_X2_85 : fl RX2 85 3 6 := ⟨RX2, TX2, 11, rfl, inA_X2, by decide, w_242⟩
theorem dX2_takeSteps_38 : decode cX2_takeSteps 38 = .ok (.getstatic 97, 3) := by decide +kernel
theorem dX2_takeSteps_41 : decode cX2_takeSteps 41 = .ok (.iload_n 2, 1) := by decide +kernel
theorem dX2_takeSteps_42 : decode cX2_takeSteps 42 = .ok (.iaload, 1) := by decide +kernel
theorem dX2_takeSteps_43 : decode cX2_takeSteps 43 = .ok (.bipush 123, 2) := by decide +kernel
theorem dX2_takeSteps_45 : decode cX2_takeSteps 45 = .ok (.imul, 1) := by decide +kernel
theorem dX2_takeSteps_46 : decode cX2_takeSteps 46 = .ok (.getstatic 100, 3) := by decide +kernel
theorem dX2_takeSteps_49 : decode cX2_takeSteps 49 = .ok (.iload_n 2, 1) := by decide +kernel
theorem dX2_takeSteps_50 : decode cX2_takeSteps 50 = .ok (.iaload, 1) := by decide +kernel
theorem dX2_takeSteps_51 : decode cX2_takeSteps 51 = .ok (.iadd, 1) := by decide +kernel
theorem dX2_takeSteps_52 : decode cX2_takeSteps 52 = .ok (.iastore, 1) := by decide +kernel
theorem dX2_takeSteps_53 : decode cX2_takeSteps 53 = .ok (.aload_n 0, 1) := by decide +kernel
theorem dX2_takeSteps_54 : decode cX2_takeSteps 54 = .ok (.getfield 32, 3) := by decide +kernel
theorem w_241 : Cond.fieldLink "QuarterWalks$Grid" 32 "QuarterWalks$Grid" "worths" "[J" ∈ wAll := wI1 146 (by decide +kernel) (by decide +kernel)
theorem fl_X2_32 : fl RX2 32 3 5 := ⟨RX2, TX2, 11, rfl, inA_X2, by decide, w_241⟩
theorem dX2_takeSteps_57 : decode cX2_takeSteps 57 = .ok (.aload_n 0, 1) := by decide +kernel
theorem dX2_takeSteps_58 : decode cX2_takeSteps 58 = .ok (.getfield 85, 3) := by decide +kernel
theorem dX2_takeSteps_61 : decode cX2_takeSteps 61 = .ok (.aload_n 0, 1) := by decide +kernel
theorem dX2_takeSteps_62 : decode cX2_takeSteps 62 = .ok (.getfield 46, 3) := by decide +kernel
theorem w_244 : Cond.fieldLink "QuarterWalks$Grid" 46 "QuarterWalks$Grid" "mode" "I" ∈ wAll := wI1 149 (by decide +kernel) (by decide +kernel)
theorem fl_X2_46 : fl RX2 46 3 8 := ⟨RX2, TX2, 11, rfl, inA_X2, by decide, w_244⟩
theorem dX2_takeSteps_65 : decode cX2_takeSteps 65 = .ok (.ifCond .eq 11, 3) := by decide +kernel
theorem dX2_takeSteps_76 : decode cX2_takeSteps 76 = .ok (.aload_n 1, 1) := by decide +kernel
theorem dX2_takeSteps_77 : decode cX2_takeSteps 77 = .ok (.getfield 94, 3) := by decide +kernel
theorem dX2_takeSteps_80 : decode cX2_takeSteps 80 = .ok (.iload_n 2, 1) := by decide +kernel
theorem dX2_takeSteps_81 : decode cX2_takeSteps 81 = .ok (.iaload, 1) := by decide +kernel
theorem dX2_takeSteps_82 : decode cX2_takeSteps 82 = .ok (.i2l, 1) := by decide +kernel
theorem dX2_takeSteps_83 : decode cX2_takeSteps 83 = .ok (.goto 4, 3) := by decide +kernel
theorem dX2_takeSteps_87 : decode cX2_takeSteps 87 = .ok (.lastore, 1) := by decide +kernel
theorem dX2_takeSteps_88 : decode cX2_takeSteps 88 = .ok (.aload_n 0, 1) := by decide +kernel
theorem dX2_takeSteps_89 : decode cX2_takeSteps 89 = .ok (.dup, 1) := by decide +kernel
theorem dX2_takeSteps_90 : decode cX2_takeSteps 90 = .ok (.getfield 85, 3) := by decide +kernel
theorem dX2_takeSteps_93 : decode cX2_takeSteps 93 = .ok (.iconst 1, 1) := by decide +kernel
theorem dX2_takeSteps_94 : decode cX2_takeSteps 94 = .ok (.iadd, 1) := by decide +kernel
theorem dX2_takeSteps_95 : decode cX2_takeSteps 95 = .ok (.putfield 85, 3) := by decide +kernel
theorem dX2_takeSteps_68 : decode cX2_takeSteps 68 = .ok (.aload_n 0, 1) := by decide +kernel
theorem dX2_takeSteps_69 : decode cX2_takeSteps 69 = .ok (.getfield 46, 3) := by decide +kernel
theorem dX2_takeSteps_72 : decode cX2_takeSteps 72 = .ok (.iconst 1, 1) := by decide +kernel
theorem dX2_takeSteps_73 : decode cX2_takeSteps 73 = .ok (.if_icmp .ne 13, 3) := by decide +kernel
theorem dX2_takeSteps_86 : decode cX2_takeSteps 86 = .ok (.lconst 1, 1) := by decide +kernel
theorem dX2_takeSteps_104 : decode cX2_takeSteps 104 = .ok (.return_, 1) := by decide +kernel
theorem dX2_widen_0 : decode cX2_widen 0 = .ok (.aload_n 0, 1) := by decide +kernel
theorem dX2_widen_1 : decode cX2_widen 1 = .ok (.getfield 92, 3) := by decide +kernel
theorem fl_X2_92 : fl RX2 92 3 7 := ⟨RX2, TX2, 11, rfl, inA_X2, by decide, w_243⟩
theorem dX2_widen_4 : decode cX2_widen 4 = .ok (.sipush 224, 3) := by decide +kernel
theorem dX2_widen_7 : decode cX2_widen 7 = .ok (.iand, 1) := by decide +kernel
theorem dX2_widen_8 : decode cX2_widen 8 = .ok (.ifCond .eq 29, 3) := by decide +kernel
theorem dX2_widen_11 : decode cX2_widen 11 = .ok (.aload_n 0, 1) := by decide +kernel
theorem dX2_widen_12 : decode cX2_widen 12 = .ok (.getfield 25, 3) := by decide +kernel
theorem dX2_widen_15 : decode cX2_widen 15 = .ok (.aload_n 0, 1) := by decide +kernel
theorem dX2_widen_16 : decode cX2_widen 16 = .ok (.getfield 25, 3) := by decide +kernel
theorem dX2_widen_19 : decode cX2_widen 19 = .ok (.getfield 60, 3) := by decide +kernel
theorem dX2_widen_22 : decode cX2_widen 22 = .ok (.iconst 1, 1) := by decide +kernel
theorem dX2_widen_23 : decode cX2_widen 23 = .ok (.isub, 1) := by decide +kernel
theorem dX2_widen_24 : decode cX2_widen 24 = .ok (.aload_n 0, 1) := by decide +kernel
theorem dX2_widen_25 : decode cX2_widen 25 = .ok (.getfield 21, 3) := by decide +kernel
theorem w_238 : Cond.fieldLink "QuarterWalks$Grid" 21 "QuarterWalks$Grid" "room" "LQuarterWalks$Box;" ∈ wAll := wI1 143 (by decide +kernel) (by decide +kernel)
theorem fl_X2_21 : fl RX2 21 3 2 := ⟨RX2, TX2, 11, rfl, inA_X2, by decide, w_238⟩
theorem dX2_widen_28 : decode cX2_widen 28 = .ok (.getfield 60, 3) := by decide +kernel
theorem dX2_widen_31 : decode cX2_widen 31 = .ok (.invokestatic 109, 3) := by decide +kernel
theorem w_695 : Cond.methodLink "QuarterWalks$Grid" 109 yJ9_max_7cf53 ∈ wAll := wI3 120 (by decide +kernel) (by decide +kernel)
theorem dX2_widen_34 : decode cX2_widen 34 = .ok (.putfield 60, 3) := by decide +kernel
theorem flw_X2_60 : flw RX2 60 2 0 (.int) := ⟨RX1, TX1, 4, tyX1, rfl, inA_X1, by decide, w_219, tyX1_ok, nmX1, by decide +kernel, Or.inl rfl⟩
theorem dX2_widen_37 : decode cX2_widen 37 = .ok (.aload_n 0, 1) := by decide +kernel
theorem dX2_widen_38 : decode cX2_widen 38 = .ok (.getfield 92, 3) := by decide +kernel
theorem dX2_widen_41 : decode cX2_widen 41 = .ok (.bipush 14, 2) := by decide +kernel
theorem dX2_widen_43 : decode cX2_widen 43 = .ok (.iand, 1) := by decide +kernel
theorem dX2_widen_44 : decode cX2_widen 44 = .ok (.ifCond .eq 29, 3) := by decide +kernel
theorem dX2_widen_47 : decode cX2_widen 47 = .ok (.aload_n 0, 1) := by decide +kernel
theorem dX2_widen_48 : decode cX2_widen 48 = .ok (.getfield 25, 3) := by decide +kernel
theorem dX2_widen_51 : decode cX2_widen 51 = .ok (.aload_n 0, 1) := by decide +kernel
theorem dX2_widen_52 : decode cX2_widen 52 = .ok (.getfield 25, 3) := by decide +kernel
theorem dX2_widen_55 : decode cX2_widen 55 = .ok (.getfield 66, 3) := by decide +kernel
theorem dX2_widen_58 : decode cX2_widen 58 = .ok (.iconst 1, 1) := by decide +kernel
theorem dX2_widen_59 : decode cX2_widen 59 = .ok (.iadd, 1) := by decide +kernel
theorem dX2_widen_60 : decode cX2_widen 60 = .ok (.aload_n 0, 1) := by decide +kernel
theorem dX2_widen_61 : decode cX2_widen 61 = .ok (.getfield 21, 3) := by decide +kernel
theorem dX2_widen_64 : decode cX2_widen 64 = .ok (.getfield 66, 3) := by decide +kernel
theorem dX2_widen_67 : decode cX2_widen 67 = .ok (.invokestatic 80, 3) := by decide +kernel
theorem w_696 : Cond.methodLink "QuarterWalks$Grid" 80 yJ9_min_7cf53 ∈ wAll := wI3 121 (by decide +kernel) (by decide +kernel)
theorem dX2_widen_70 : decode cX2_widen 70 = .ok (.putfield 66, 3) := by decide +kernel
theorem flw_X2_66 : flw RX2 66 2 2 (.int) := ⟨RX1, TX1, 4, tyX1, rfl, inA_X1, by decide, w_223, tyX1_ok, nmX1, by decide +kernel, Or.inl rfl⟩
theorem dX2_widen_73 : decode cX2_widen 73 = .ok (.aload_n 0, 1) := by decide +kernel
theorem dX2_widen_74 : decode cX2_widen 74 = .ok (.getfield 92, 3) := by decide +kernel
theorem dX2_widen_77 : decode cX2_widen 77 = .ok (.bipush 56, 2) := by decide +kernel
theorem dX2_widen_79 : decode cX2_widen 79 = .ok (.iand, 1) := by decide +kernel
theorem dX2_widen_80 : decode cX2_widen 80 = .ok (.ifCond .eq 29, 3) := by decide +kernel
theorem dX2_widen_83 : decode cX2_widen 83 = .ok (.aload_n 0, 1) := by decide +kernel
theorem dX2_widen_84 : decode cX2_widen 84 = .ok (.getfield 25, 3) := by decide +kernel
theorem dX2_widen_87 : decode cX2_widen 87 = .ok (.aload_n 0, 1) := by decide +kernel
theorem dX2_widen_88 : decode cX2_widen 88 = .ok (.getfield 25, 3) := by decide +kernel
theorem dX2_widen_91 : decode cX2_widen 91 = .ok (.getfield 63, 3) := by decide +kernel
theorem dX2_widen_94 : decode cX2_widen 94 = .ok (.iconst 1, 1) := by decide +kernel
theorem dX2_widen_95 : decode cX2_widen 95 = .ok (.isub, 1) := by decide +kernel
theorem dX2_widen_96 : decode cX2_widen 96 = .ok (.aload_n 0, 1) := by decide +kernel
theorem dX2_widen_97 : decode cX2_widen 97 = .ok (.getfield 21, 3) := by decide +kernel
theorem dX2_widen_100 : decode cX2_widen 100 = .ok (.getfield 63, 3) := by decide +kernel
theorem dX2_widen_103 : decode cX2_widen 103 = .ok (.invokestatic 109, 3) := by decide +kernel
theorem dX2_widen_106 : decode cX2_widen 106 = .ok (.putfield 63, 3) := by decide +kernel
theorem flw_X2_63 : flw RX2 63 2 1 (.int) := ⟨RX1, TX1, 4, tyX1, rfl, inA_X1, by decide, w_221, tyX1_ok, nmX1, by decide +kernel, Or.inl rfl⟩
theorem dX2_widen_109 : decode cX2_widen 109 = .ok (.aload_n 0, 1) := by decide +kernel
theorem dX2_widen_110 : decode cX2_widen 110 = .ok (.getfield 92, 3) := by decide +kernel
theorem dX2_widen_113 : decode cX2_widen 113 = .ok (.sipush 131, 3) := by decide +kernel
theorem dX2_widen_116 : decode cX2_widen 116 = .ok (.iand, 1) := by decide +kernel
theorem dX2_widen_117 : decode cX2_widen 117 = .ok (.ifCond .eq 29, 3) := by decide +kernel
theorem dX2_widen_120 : decode cX2_widen 120 = .ok (.aload_n 0, 1) := by decide +kernel
theorem dX2_widen_121 : decode cX2_widen 121 = .ok (.getfield 25, 3) := by decide +kernel
theorem dX2_widen_124 : decode cX2_widen 124 = .ok (.aload_n 0, 1) := by decide +kernel
theorem dX2_widen_125 : decode cX2_widen 125 = .ok (.getfield 25, 3) := by decide +kernel
theorem dX2_widen_128 : decode cX2_widen 128 = .ok (.getfield 69, 3) := by decide +kernel
theorem dX2_widen_131 : decode cX2_widen 131 = .ok (.iconst 1, 1) := by decide +kernel
theorem dX2_widen_132 : decode cX2_widen 132 = .ok (.iadd, 1) := by decide +kernel
theorem dX2_widen_133 : decode cX2_widen 133 = .ok (.aload_n 0, 1) := by decide +kernel
theorem dX2_widen_134 : decode cX2_widen 134 = .ok (.getfield 21, 3) := by decide +kernel
theorem dX2_widen_137 : decode cX2_widen 137 = .ok (.getfield 69, 3) := by decide +kernel
theorem dX2_widen_140 : decode cX2_widen 140 = .ok (.invokestatic 80, 3) := by decide +kernel
theorem dX2_widen_143 : decode cX2_widen 143 = .ok (.putfield 69, 3) := by decide +kernel
theorem flw_X2_69 : flw RX2 69 2 3 (.int) := ⟨RX1, TX1, 4, tyX1, rfl, inA_X1, by decide, w_225, tyX1_ok, nmX1, by decide +kernel, Or.inl rfl⟩
theorem dX2_widen_146 : decode cX2_widen 146 = .ok (.return_, 1) := by decide +kernel
theorem dX2_settled_0 : decode cX2_settled 0 = .ok (.aload_n 0, 1) := by decide +kernel
theorem dX2_settled_1 : decode cX2_settled 1 = .ok (.getfield 46, 3) := by decide +kernel
theorem dX2_settled_4 : decode cX2_settled 4 = .ok (.ifCond .ne 9, 3) := by decide +kernel
theorem dX2_settled_13 : decode cX2_settled 13 = .ok (.aload_n 0, 1) := by decide +kernel
theorem dX2_settled_14 : decode cX2_settled 14 = .ok (.getfield 46, 3) := by decide +kernel
theorem dX2_settled_17 : decode cX2_settled 17 = .ok (.iconst 3, 1) := by decide +kernel
theorem dX2_settled_18 : decode cX2_settled 18 = .ok (.if_icmp .ne 11, 3) := by decide +kernel
theorem dX2_settled_29 : decode cX2_settled 29 = .ok (.lload_n 1, 1) := by decide +kernel
theorem dX2_settled_21 : decode cX2_settled 21 = .ok (.lload_n 1, 1) := by decide +kernel
theorem dX2_settled_22 : decode cX2_settled 22 = .ok (.lconst 1, 1) := by decide +kernel
theorem dX2_settled_23 : decode cX2_settled 23 = .ok (.invokestatic 118, 3) := by decide +kernel
theorem w_706 : Cond.methodLink "QuarterWalks$Grid" 118 yJ9_min_f86c9 ∈ wAll := wI3 131 (by decide +kernel) (by decide +kernel)
theorem w_707 : Cond.static yJ9_min_f86c9 ∈ wAll := wI3 132 (by decide +kernel) (by decide +kernel)
theorem w_708 : Cond.code yJ9_min_f86c9 cJ9_min_f86c9 4 (some .long) ∈ wAll := wI3 133 (by decide +kernel) (by decide +kernel)
theorem dX2_settled_26 : decode cX2_settled 26 = .ok (.goto 4, 3) := by decide +kernel
theorem dX2_settled_7 : decode cX2_settled 7 = .ok (.lload_n 1, 1) := by decide +kernel
theorem dX2_settled_8 : decode cX2_settled 8 = .ok (.ldc2_w 116, 3) := by decide +kernel
theorem w_705 : Cond.constantLong "QuarterWalks$Grid" 116 1000003 ∈ wAll := wI3 130 (by decide +kernel) (by decide +kernel)
theorem dX2_settled_11 : decode cX2_settled 11 = .ok (.lrem, 1) := by decide +kernel
theorem dX2_settled_30 : decode cX2_settled 30 = .ok (.lreturn, 1) := by decide +kernel
theorem dX2_settled_12 : decode cX2_settled 12 = .ok (.lreturn, 1) := by decide +kernel
theorem dX2_gather_0 : decode cX2_gather 0 = .ok (.aload_n 0, 1) := by decide +kernel
theorem dX2_gather_1 : decode cX2_gather 1 = .ok (.getfield 25, 3) := by decide +kernel
theorem dX2_gather_4 : decode cX2_gather 4 = .ok (.getfield 60, 3) := by decide +kernel
theorem dX2_gather_7 : decode cX2_gather 7 = .ok (.istore_n 1, 1) := by decide +kernel
theorem dX2_gather_8 : decode cX2_gather 8 = .ok (.iload_n 1, 1) := by decide +kernel
theorem dX2_gather_9 : decode cX2_gather 9 = .ok (.aload_n 0, 1) := by decide +kernel
theorem dX2_gather_10 : decode cX2_gather 10 = .ok (.getfield 25, 3) := by decide +kernel
theorem dX2_gather_13 : decode cX2_gather 13 = .ok (.getfield 66, 3) := by decide +kernel
theorem dX2_gather_16 : decode cX2_gather 16 = .ok (.if_icmp .gt 106, 3) := by decide +kernel
theorem dX2_gather_19 : decode cX2_gather 19 = .ok (.aload_n 0, 1) := by decide +kernel
theorem dX2_gather_20 : decode cX2_gather 20 = .ok (.iload_n 1, 1) := by decide +kernel
theorem dX2_gather_21 : decode cX2_gather 21 = .ok (.aload_n 0, 1) := by decide +kernel
theorem dX2_gather_22 : decode cX2_gather 22 = .ok (.getfield 25, 3) := by decide +kernel
theorem dX2_gather_25 : decode cX2_gather 25 = .ok (.getfield 69, 3) := by decide +kernel
theorem dX2_gather_28 : decode cX2_gather 28 = .ok (.invokevirtual 76, 3) := by decide +kernel
theorem dX2_gather_31 : decode cX2_gather 31 = .ok (.istore_n 2, 1) := by decide +kernel
theorem dX2_gather_32 : decode cX2_gather 32 = .ok (.aload_n 0, 1) := by decide +kernel
theorem dX2_gather_33 : decode cX2_gather 33 = .ok (.iload_n 1, 1) := by decide +kernel
theorem dX2_gather_34 : decode cX2_gather 34 = .ok (.aload_n 0, 1) := by decide +kernel
theorem dX2_gather_35 : decode cX2_gather 35 = .ok (.getfield 25, 3) := by decide +kernel
theorem dX2_gather_38 : decode cX2_gather 38 = .ok (.getfield 63, 3) := by decide +kernel
theorem dX2_gather_41 : decode cX2_gather 41 = .ok (.invokevirtual 76, 3) := by decide +kernel
theorem dX2_gather_44 : decode cX2_gather 44 = .ok (.istore_n 3, 1) := by decide +kernel
theorem dX2_gather_45 : decode cX2_gather 45 = .ok (.iload_n 3, 1) := by decide +kernel
theorem dX2_gather_46 : decode cX2_gather 46 = .ok (.iload_n 2, 1) := by decide +kernel
theorem dX2_gather_47 : decode cX2_gather 47 = .ok (.if_icmp .gt 69, 3) := by decide +kernel
theorem dX2_gather_116 : decode cX2_gather 116 = .ok (.iinc 1 1, 3) := by decide +kernel
theorem dX2_gather_119 : decode cX2_gather 119 = .ok (.goto (-111), 3) := by decide +kernel
theorem dX2_gather_50 : decode cX2_gather 50 = .ok (.lconst 0, 1) := by decide +kernel
theorem dX2_gather_51 : decode cX2_gather 51 = .ok (.lstore 4, 2) := by decide +kernel
theorem dX2_gather_53 : decode cX2_gather 53 = .ok (.iconst 0, 1) := by decide +kernel
theorem dX2_gather_54 : decode cX2_gather 54 = .ok (.istore 6, 2) := by decide +kernel
theorem dX2_gather_56 : decode cX2_gather 56 = .ok (.iload 6, 2) := by decide +kernel
theorem dX2_gather_58 : decode cX2_gather 58 = .ok (.aload_n 0, 1) := by decide +kernel
theorem dX2_gather_59 : decode cX2_gather 59 = .ok (.getfield 85, 3) := by decide +kernel
theorem dX2_gather_62 : decode cX2_gather 62 = .ok (.if_icmp .ge 36, 3) := by decide +kernel
theorem dX2_gather_98 : decode cX2_gather 98 = .ok (.aload_n 0, 1) := by decide +kernel
theorem dX2_gather_99 : decode cX2_gather 99 = .ok (.getfield 15, 3) := by decide +kernel
theorem dX2_gather_102 : decode cX2_gather 102 = .ok (.iload_n 3, 1) := by decide +kernel
theorem dX2_gather_103 : decode cX2_gather 103 = .ok (.aload_n 0, 1) := by decide +kernel
theorem dX2_gather_104 : decode cX2_gather 104 = .ok (.lload 4, 2) := by decide +kernel
theorem dX2_gather_106 : decode cX2_gather 106 = .ok (.invokevirtual 112, 3) := by decide +kernel
theorem w_701 : Cond.methodLink "QuarterWalks$Grid" 112 yX2_settled ∈ wAll := wI3 126 (by decide +kernel) (by decide +kernel)
theorem w_16 : Cond.selects yX2_settled.cls yX2_settled yX2_settled ∈ wAll := wIn 16 (by decide +kernel) (by decide +kernel)
theorem mk_X2_settled : mk yX2_settled 1 := ⟨by decide +kernel, w_100⟩
theorem w_703 : Cond.instanceMethod yX2_settled ∈ wAll := wI3 128 (by decide +kernel) (by decide +kernel)
theorem w_704 : Cond.code yX2_settled cX2_settled 3 (some .long) ∈ wAll := wI3 129 (by decide +kernel) (by decide +kernel)
theorem dX2_gather_109 : decode cX2_gather 109 = .ok (.lastore, 1) := by decide +kernel
theorem dX2_gather_110 : decode cX2_gather 110 = .ok (.iinc 3 1, 3) := by decide +kernel
theorem dX2_gather_113 : decode cX2_gather 113 = .ok (.goto (-68), 3) := by decide +kernel
theorem dX2_gather_65 : decode cX2_gather 65 = .ok (.lload 4, 2) := by decide +kernel
theorem dX2_gather_67 : decode cX2_gather 67 = .ok (.aload_n 0, 1) := by decide +kernel
theorem dX2_gather_68 : decode cX2_gather 68 = .ok (.getfield 32, 3) := by decide +kernel
theorem dX2_gather_71 : decode cX2_gather 71 = .ok (.iload 6, 2) := by decide +kernel
theorem dX2_gather_73 : decode cX2_gather 73 = .ok (.laload, 1) := by decide +kernel
theorem dX2_gather_74 : decode cX2_gather 74 = .ok (.aload_n 0, 1) := by decide +kernel
theorem dX2_gather_75 : decode cX2_gather 75 = .ok (.getfield 11, 3) := by decide +kernel
theorem dX2_gather_78 : decode cX2_gather 78 = .ok (.iload_n 3, 1) := by decide +kernel
theorem dX2_gather_79 : decode cX2_gather 79 = .ok (.aload_n 0, 1) := by decide +kernel
theorem dX2_gather_80 : decode cX2_gather 80 = .ok (.getfield 28, 3) := by decide +kernel
theorem dX2_gather_83 : decode cX2_gather 83 = .ok (.iload 6, 2) := by decide +kernel
theorem dX2_gather_85 : decode cX2_gather 85 = .ok (.iaload, 1) := by decide +kernel
theorem dX2_gather_86 : decode cX2_gather 86 = .ok (.isub, 1) := by decide +kernel
theorem dX2_gather_87 : decode cX2_gather 87 = .ok (.laload, 1) := by decide +kernel
theorem dX2_gather_88 : decode cX2_gather 88 = .ok (.lmul, 1) := by decide +kernel
theorem dX2_gather_89 : decode cX2_gather 89 = .ok (.ladd, 1) := by decide +kernel
theorem dX2_gather_90 : decode cX2_gather 90 = .ok (.lstore 4, 2) := by decide +kernel
theorem dX2_gather_92 : decode cX2_gather 92 = .ok (.iinc 6 1, 3) := by decide +kernel
theorem dX2_gather_95 : decode cX2_gather 95 = .ok (.goto (-39), 3) := by decide +kernel
theorem dX2_gather_122 : decode cX2_gather 122 = .ok (.return_, 1) := by decide +kernel
theorem dX2_open_0 : decode cX2_open 0 = .ok (.aload_n 0, 1) := by decide +kernel
theorem dX2_open_1 : decode cX2_open 1 = .ok (.invokevirtual 43, 3) := by decide +kernel
theorem w_667 : Cond.methodLink "QuarterWalks$Grid" 43 yX2_wipe ∈ wAll := wI3 92 (by decide +kernel) (by decide +kernel)
theorem w_11 : Cond.selects yX2_wipe.cls yX2_wipe yX2_wipe ∈ wAll := wIn 11 (by decide +kernel) (by decide +kernel)
theorem mk_X2_wipe : mk yX2_wipe 0 := ⟨by decide +kernel, w_100⟩
theorem w_669 : Cond.instanceMethod yX2_wipe ∈ wAll := wI3 94 (by decide +kernel) (by decide +kernel)
theorem w_670 : Cond.code yX2_wipe cX2_wipe 4 none ∈ wAll := wI3 95 (by decide +kernel) (by decide +kernel)
theorem dX2_open_4 : decode cX2_open 4 = .ok (.aload_n 0, 1) := by decide +kernel
theorem dX2_open_5 : decode cX2_open 5 = .ok (.iload_n 2, 1) := by decide +kernel
theorem dX2_open_6 : decode cX2_open 6 = .ok (.putfield 46, 3) := by decide +kernel
theorem flw_X2_46 : flw RX2 46 3 8 (.int) := ⟨RX2, TX2, 11, tyX2, rfl, inA_X2, by decide, w_244, tyX2_ok, nmX2, by decide +kernel, Or.inl rfl⟩
theorem dX2_open_9 : decode cX2_open 9 = .ok (.aload_n 0, 1) := by decide +kernel
theorem dX2_open_10 : decode cX2_open 10 = .ok (.aload_n 1, 1) := by decide +kernel
theorem dX2_open_11 : decode cX2_open 11 = .ok (.getfield 50, 3) := by decide +kernel
theorem w_560 : Cond.fieldLink "QuarterWalks$Grid" 50 "QuarterWalks$StepSet" "startX" "I" ∈ wAll := wI2 225 (by decide +kernel) (by decide +kernel)
theorem fl_X2_50 : fl RX2 50 7 1 := ⟨RX6, TX6, 4, rfl, inA_X6, by decide, w_560⟩
theorem dX2_open_14 : decode cX2_open 14 = .ok (.putfield 55, 3) := by decide +kernel
theorem flw_X2_55 : flw RX2 55 3 9 (.int) := ⟨RX2, TX2, 11, tyX2, rfl, inA_X2, by decide, w_245, tyX2_ok, nmX2, by decide +kernel, Or.inl rfl⟩
theorem dX2_open_17 : decode cX2_open 17 = .ok (.aload_n 0, 1) := by decide +kernel
theorem dX2_open_18 : decode cX2_open 18 = .ok (.aload_n 1, 1) := by decide +kernel
theorem dX2_open_19 : decode cX2_open 19 = .ok (.getfield 56, 3) := by decide +kernel
theorem w_564 : Cond.fieldLink "QuarterWalks$Grid" 56 "QuarterWalks$StepSet" "startY" "I" ∈ wAll := wI2 229 (by decide +kernel) (by decide +kernel)
theorem fl_X2_56 : fl RX2 56 7 2 := ⟨RX6, TX6, 4, rfl, inA_X6, by decide, w_564⟩
theorem dX2_open_22 : decode cX2_open 22 = .ok (.putfield 59, 3) := by decide +kernel
theorem flw_X2_59 : flw RX2 59 3 10 (.int) := ⟨RX2, TX2, 11, tyX2, rfl, inA_X2, by decide, w_246, tyX2_ok, nmX2, by decide +kernel, Or.inl rfl⟩
theorem dX2_open_25 : decode cX2_open 25 = .ok (.iload_n 3, 1) := by decide +kernel
theorem dX2_open_26 : decode cX2_open 26 = .ok (.ifCond .eq 8, 3) := by decide +kernel
theorem dX2_open_34 : decode cX2_open 34 = .ok (.iconst 1, 1) := by decide +kernel
theorem dX2_open_35 : decode cX2_open 35 = .ok (.goto 4, 3) := by decide +kernel
theorem dX2_open_39 : decode cX2_open 39 = .ok (.istore 4, 2) := by decide +kernel
theorem dX2_open_41 : decode cX2_open 41 = .ok (.iload_n 3, 1) := by decide +kernel
theorem dX2_open_42 : decode cX2_open 42 = .ok (.ifCond .eq 8, 3) := by decide +kernel
theorem dX2_open_50 : decode cX2_open 50 = .ok (.iconst 1, 1) := by decide +kernel
theorem dX2_open_51 : decode cX2_open 51 = .ok (.goto 4, 3) := by decide +kernel
theorem dX2_open_55 : decode cX2_open 55 = .ok (.istore 5, 2) := by decide +kernel
theorem dX2_open_57 : decode cX2_open 57 = .ok (.aload_n 0, 1) := by decide +kernel
theorem dX2_open_58 : decode cX2_open 58 = .ok (.getfield 21, 3) := by decide +kernel
theorem dX2_open_61 : decode cX2_open 61 = .ok (.iload 4, 2) := by decide +kernel
theorem dX2_open_63 : decode cX2_open 63 = .ok (.ifCond .eq 7, 3) := by decide +kernel
theorem dX2_open_66 : decode cX2_open 66 = .ok (.iconst 0, 1) := by decide +kernel
theorem dX2_open_67 : decode cX2_open 67 = .ok (.goto 10, 3) := by decide +kernel
theorem dX2_open_77 : decode cX2_open 77 = .ok (.putfield 60, 3) := by decide +kernel
theorem dX2_open_80 : decode cX2_open 80 = .ok (.aload_n 0, 1) := by decide +kernel
theorem dX2_open_81 : decode cX2_open 81 = .ok (.getfield 21, 3) := by decide +kernel
theorem dX2_open_84 : decode cX2_open 84 = .ok (.iload 5, 2) := by decide +kernel
theorem dX2_open_86 : decode cX2_open 86 = .ok (.ifCond .eq 7, 3) := by decide +kernel
theorem dX2_open_89 : decode cX2_open 89 = .ok (.iconst 0, 1) := by decide +kernel
theorem dX2_open_90 : decode cX2_open 90 = .ok (.goto 10, 3) := by decide +kernel
theorem dX2_open_100 : decode cX2_open 100 = .ok (.putfield 63, 3) := by decide +kernel
theorem dX2_open_103 : decode cX2_open 103 = .ok (.aload_n 0, 1) := by decide +kernel
theorem dX2_open_104 : decode cX2_open 104 = .ok (.getfield 21, 3) := by decide +kernel
theorem dX2_open_107 : decode cX2_open 107 = .ok (.aload_n 0, 1) := by decide +kernel
theorem dX2_open_108 : decode cX2_open 108 = .ok (.getfield 55, 3) := by decide +kernel
theorem dX2_open_111 : decode cX2_open 111 = .ok (.bipush 60, 2) := by decide +kernel
theorem dX2_open_113 : decode cX2_open 113 = .ok (.iadd, 1) := by decide +kernel
theorem dX2_open_114 : decode cX2_open 114 = .ok (.putfield 66, 3) := by decide +kernel
theorem dX2_open_117 : decode cX2_open 117 = .ok (.aload_n 0, 1) := by decide +kernel
theorem dX2_open_118 : decode cX2_open 118 = .ok (.getfield 21, 3) := by decide +kernel
theorem dX2_open_121 : decode cX2_open 121 = .ok (.aload_n 0, 1) := by decide +kernel
theorem dX2_open_122 : decode cX2_open 122 = .ok (.getfield 59, 3) := by decide +kernel
theorem dX2_open_125 : decode cX2_open 125 = .ok (.bipush 60, 2) := by decide +kernel
theorem dX2_open_127 : decode cX2_open 127 = .ok (.iadd, 1) := by decide +kernel
theorem dX2_open_128 : decode cX2_open 128 = .ok (.putfield 69, 3) := by decide +kernel
theorem dX2_open_131 : decode cX2_open 131 = .ok (.aload_n 0, 1) := by decide +kernel
theorem dX2_open_132 : decode cX2_open 132 = .ok (.getfield 25, 3) := by decide +kernel
theorem dX2_open_135 : decode cX2_open 135 = .ok (.aload_n 0, 1) := by decide +kernel
theorem dX2_open_136 : decode cX2_open 136 = .ok (.getfield 55, 3) := by decide +kernel
theorem dX2_open_139 : decode cX2_open 139 = .ok (.putfield 60, 3) := by decide +kernel
theorem dX2_open_142 : decode cX2_open 142 = .ok (.aload_n 0, 1) := by decide +kernel
theorem dX2_open_143 : decode cX2_open 143 = .ok (.getfield 25, 3) := by decide +kernel
theorem dX2_open_146 : decode cX2_open 146 = .ok (.aload_n 0, 1) := by decide +kernel
theorem dX2_open_147 : decode cX2_open 147 = .ok (.getfield 59, 3) := by decide +kernel
theorem dX2_open_150 : decode cX2_open 150 = .ok (.putfield 63, 3) := by decide +kernel
theorem dX2_open_153 : decode cX2_open 153 = .ok (.aload_n 0, 1) := by decide +kernel
theorem dX2_open_154 : decode cX2_open 154 = .ok (.getfield 25, 3) := by decide +kernel
theorem dX2_open_157 : decode cX2_open 157 = .ok (.aload_n 0, 1) := by decide +kernel
theorem dX2_open_158 : decode cX2_open 158 = .ok (.getfield 55, 3) := by decide +kernel
theorem dX2_open_161 : decode cX2_open 161 = .ok (.putfield 66, 3) := by decide +kernel
theorem dX2_open_164 : decode cX2_open 164 = .ok (.aload_n 0, 1) := by decide +kernel
theorem dX2_open_165 : decode cX2_open 165 = .ok (.getfield 25, 3) := by decide +kernel
theorem dX2_open_168 : decode cX2_open 168 = .ok (.aload_n 0, 1) := by decide +kernel
theorem dX2_open_169 : decode cX2_open 169 = .ok (.getfield 59, 3) := by decide +kernel
theorem dX2_open_172 : decode cX2_open 172 = .ok (.putfield 69, 3) := by decide +kernel
theorem dX2_open_175 : decode cX2_open 175 = .ok (.aload_n 0, 1) := by decide +kernel
theorem dX2_open_176 : decode cX2_open 176 = .ok (.aload_n 1, 1) := by decide +kernel
theorem dX2_open_177 : decode cX2_open 177 = .ok (.invokevirtual 72, 3) := by decide +kernel
theorem w_675 : Cond.methodLink "QuarterWalks$Grid" 72 yX2_takeSteps ∈ wAll := wI3 100 (by decide +kernel) (by decide +kernel)
theorem w_13 : Cond.selects yX2_takeSteps.cls yX2_takeSteps yX2_takeSteps ∈ wAll := wIn 13 (by decide +kernel) (by decide +kernel)
theorem mk_X2_takeSteps : mk yX2_takeSteps 1 := ⟨by decide +kernel, w_100⟩
theorem w_677 : Cond.instanceMethod yX2_takeSteps ∈ wAll := wI3 102 (by decide +kernel) (by decide +kernel)
theorem w_678 : Cond.code yX2_takeSteps cX2_takeSteps 3 none ∈ wAll := wI3 103 (by decide +kernel) (by decide +kernel)
theorem dX2_open_180 : decode cX2_open 180 = .ok (.aload_n 0, 1) := by decide +kernel
theorem dX2_open_181 : decode cX2_open 181 = .ok (.getfield 11, 3) := by decide +kernel
theorem dX2_open_184 : decode cX2_open 184 = .ok (.aload_n 0, 1) := by decide +kernel
theorem dX2_open_185 : decode cX2_open 185 = .ok (.aload_n 0, 1) := by decide +kernel
theorem dX2_open_186 : decode cX2_open 186 = .ok (.getfield 55, 3) := by decide +kernel
theorem dX2_open_189 : decode cX2_open 189 = .ok (.aload_n 0, 1) := by decide +kernel
theorem dX2_open_190 : decode cX2_open 190 = .ok (.getfield 59, 3) := by decide +kernel
theorem dX2_open_193 : decode cX2_open 193 = .ok (.invokevirtual 76, 3) := by decide +kernel
theorem dX2_open_196 : decode cX2_open 196 = .ok (.lconst 1, 1) := by decide +kernel
theorem dX2_open_197 : decode cX2_open 197 = .ok (.lastore, 1) := by decide +kernel
theorem dX2_open_29 : decode cX2_open 29 = .ok (.iload_n 3, 1) := by decide +kernel
theorem dX2_open_30 : decode cX2_open 30 = .ok (.iconst 3, 1) := by decide +kernel
theorem dX2_open_31 : decode cX2_open 31 = .ok (.if_icmp .ne 7, 3) := by decide +kernel
theorem dX2_open_38 : decode cX2_open 38 = .ok (.iconst 0, 1) := by decide +kernel
theorem dX2_open_70 : decode cX2_open 70 = .ok (.aload_n 0, 1) := by decide +kernel
theorem dX2_open_71 : decode cX2_open 71 = .ok (.getfield 55, 3) := by decide +kernel
theorem dX2_open_74 : decode cX2_open 74 = .ok (.bipush 60, 2) := by decide +kernel
theorem dX2_open_76 : decode cX2_open 76 = .ok (.isub, 1) := by decide +kernel
theorem dX2_open_45 : decode cX2_open 45 = .ok (.iload_n 3, 1) := by decide +kernel
theorem dX2_open_46 : decode cX2_open 46 = .ok (.iconst 1, 1) := by decide +kernel
theorem dX2_open_47 : decode cX2_open 47 = .ok (.if_icmp .ne 7, 3) := by decide +kernel
theorem dX2_open_54 : decode cX2_open 54 = .ok (.iconst 0, 1) := by decide +kernel
theorem dX2_open_93 : decode cX2_open 93 = .ok (.aload_n 0, 1) := by decide +kernel
theorem dX2_open_94 : decode cX2_open 94 = .ok (.getfield 59, 3) := by decide +kernel
theorem dX2_open_97 : decode cX2_open 97 = .ok (.bipush 60, 2) := by decide +kernel
theorem dX2_open_99 : decode cX2_open 99 = .ok (.isub, 1) := by decide +kernel
theorem dX2_open_198 : decode cX2_open 198 = .ok (.return_, 1) := by decide +kernel
theorem dX2_advance_0 : decode cX2_advance 0 = .ok (.iconst 0, 1) := by decide +kernel
theorem dX2_advance_1 : decode cX2_advance 1 = .ok (.istore_n 2, 1) := by decide +kernel
theorem dX2_advance_2 : decode cX2_advance 2 = .ok (.iload_n 2, 1) := by decide +kernel
theorem dX2_advance_3 : decode cX2_advance 3 = .ok (.iload_n 1, 1) := by decide +kernel
theorem dX2_advance_4 : decode cX2_advance 4 = .ok (.if_icmp .ge 35, 3) := by decide +kernel
theorem dX2_advance_7 : decode cX2_advance 7 = .ok (.aload_n 0, 1) := by decide +kernel
theorem dX2_advance_8 : decode cX2_advance 8 = .ok (.invokevirtual 103, 3) := by decide +kernel
theorem w_691 : Cond.methodLink "QuarterWalks$Grid" 103 yX2_widen ∈ wAll := wI3 116 (by decide +kernel) (by decide +kernel)
theorem w_14 : Cond.selects yX2_widen.cls yX2_widen yX2_widen ∈ wAll := wIn 14 (by decide +kernel) (by decide +kernel)
theorem mk_X2_widen : mk yX2_widen 0 := ⟨by decide +kernel, w_100⟩
theorem w_693 : Cond.instanceMethod yX2_widen ∈ wAll := wI3 118 (by decide +kernel) (by decide +kernel)
theorem w_694 : Cond.code yX2_widen cX2_widen 1 none ∈ wAll := wI3 119 (by decide +kernel) (by decide +kernel)
theorem dX2_advance_11 : decode cX2_advance 11 = .ok (.aload_n 0, 1) := by decide +kernel
theorem dX2_advance_12 : decode cX2_advance 12 = .ok (.invokevirtual 106, 3) := by decide +kernel
theorem w_697 : Cond.methodLink "QuarterWalks$Grid" 106 yX2_gather ∈ wAll := wI3 122 (by decide +kernel) (by decide +kernel)
theorem w_15 : Cond.selects yX2_gather.cls yX2_gather yX2_gather ∈ wAll := wIn 15 (by decide +kernel) (by decide +kernel)
theorem mk_X2_gather : mk yX2_gather 0 := ⟨by decide +kernel, w_100⟩
theorem w_699 : Cond.instanceMethod yX2_gather ∈ wAll := wI3 124 (by decide +kernel) (by decide +kernel)
theorem w_700 : Cond.code yX2_gather cX2_gather 7 none ∈ wAll := wI3 125 (by decide +kernel) (by decide +kernel)
theorem dX2_advance_15 : decode cX2_advance 15 = .ok (.aload_n 0, 1) := by decide +kernel
theorem dX2_advance_16 : decode cX2_advance 16 = .ok (.getfield 11, 3) := by decide +kernel
theorem dX2_advance_19 : decode cX2_advance 19 = .ok (.astore_n 3, 1) := by decide +kernel
theorem dX2_advance_20 : decode cX2_advance 20 = .ok (.aload_n 0, 1) := by decide +kernel
theorem dX2_advance_21 : decode cX2_advance 21 = .ok (.aload_n 0, 1) := by decide +kernel
theorem dX2_advance_22 : decode cX2_advance 22 = .ok (.getfield 15, 3) := by decide +kernel
theorem dX2_advance_25 : decode cX2_advance 25 = .ok (.putfield 11, 3) := by decide +kernel
theorem flw_X2_11 : flw RX2 11 3 0 (.array (.long)) := ⟨RX2, TX2, 11, tyX2, rfl, inA_X2, by decide, w_236, tyX2_ok, nmX2, by decide +kernel, Or.inl rfl⟩
theorem dX2_advance_28 : decode cX2_advance 28 = .ok (.aload_n 0, 1) := by decide +kernel
theorem dX2_advance_29 : decode cX2_advance 29 = .ok (.aload_n 3, 1) := by decide +kernel
theorem dX2_advance_30 : decode cX2_advance 30 = .ok (.putfield 15, 3) := by decide +kernel
theorem flw_X2_15 : flw RX2 15 3 1 (.array (.long)) := ⟨RX2, TX2, 11, tyX2, rfl, inA_X2, by decide, w_237, tyX2_ok, nmX2, by decide +kernel, Or.inl rfl⟩
theorem dX2_advance_33 : decode cX2_advance 33 = .ok (.iinc 2 1, 3) := by decide +kernel
theorem dX2_advance_36 : decode cX2_advance 36 = .ok (.goto (-34), 3) := by decide +kernel
theorem dX2_advance_39 : decode cX2_advance 39 = .ok (.return_, 1) := by decide +kernel
theorem dX2_go_0 : decode cX2_go 0 = .ok (.aload_n 0, 1) := by decide +kernel
theorem dX2_go_1 : decode cX2_go 1 = .ok (.aload_n 1, 1) := by decide +kernel
theorem dX2_go_2 : decode cX2_go 2 = .ok (.iload_n 2, 1) := by decide +kernel
theorem dX2_go_3 : decode cX2_go 3 = .ok (.iload_n 3, 1) := by decide +kernel
theorem dX2_go_4 : decode cX2_go 4 = .ok (.invokevirtual 35, 3) := by decide +kernel
theorem w_663 : Cond.methodLink "QuarterWalks$Grid" 35 yX2_open ∈ wAll := wI3 88 (by decide +kernel) (by decide +kernel)
theorem w_665 : Cond.selects yX2_open.cls yX2_open yX2_open ∈ wAll := wI3 90 (by decide +kernel) (by decide +kernel)
theorem mk_X2_open : mk yX2_open 3 := ⟨by decide +kernel, w_100⟩
theorem w_664 : Cond.instanceMethod yX2_open ∈ wAll := wI3 89 (by decide +kernel) (by decide +kernel)
theorem w_666 : Cond.code yX2_open cX2_open 6 none ∈ wAll := wI3 91 (by decide +kernel) (by decide +kernel)
theorem dX2_go_7 : decode cX2_go 7 = .ok (.aload_n 0, 1) := by decide +kernel
theorem dX2_go_8 : decode cX2_go 8 = .ok (.iload 4, 2) := by decide +kernel
theorem dX2_go_10 : decode cX2_go 10 = .ok (.invokevirtual 39, 3) := by decide +kernel
theorem w_687 : Cond.methodLink "QuarterWalks$Grid" 39 yX2_advance ∈ wAll := wI3 112 (by decide +kernel) (by decide +kernel)
theorem w_689 : Cond.selects yX2_advance.cls yX2_advance yX2_advance ∈ wAll := wI3 114 (by decide +kernel) (by decide +kernel)
theorem mk_X2_advance : mk yX2_advance 1 := ⟨by decide +kernel, w_100⟩
theorem w_688 : Cond.instanceMethod yX2_advance ∈ wAll := wI3 113 (by decide +kernel) (by decide +kernel)
theorem w_690 : Cond.code yX2_advance cX2_advance 4 none ∈ wAll := wI3 115 (by decide +kernel) (by decide +kernel)
theorem dX2_go_13 : decode cX2_go 13 = .ok (.return_, 1) := by decide +kernel
theorem dX2_close_0 : decode cX2_close 0 = .ok (.aload_n 0, 1) := by decide +kernel
theorem dX2_close_1 : decode cX2_close 1 = .ok (.getfield 21, 3) := by decide +kernel
theorem dX2_close_4 : decode cX2_close 4 = .ok (.aload_n 0, 1) := by decide +kernel
theorem dX2_close_5 : decode cX2_close 5 = .ok (.getfield 21, 3) := by decide +kernel
theorem dX2_close_8 : decode cX2_close 8 = .ok (.getfield 66, 3) := by decide +kernel
theorem dX2_close_11 : decode cX2_close 11 = .ok (.iload_n 1, 1) := by decide +kernel
theorem dX2_close_12 : decode cX2_close 12 = .ok (.invokestatic 80, 3) := by decide +kernel
theorem dX2_close_15 : decode cX2_close 15 = .ok (.putfield 66, 3) := by decide +kernel
theorem dX2_close_18 : decode cX2_close 18 = .ok (.aload_n 0, 1) := by decide +kernel
theorem dX2_close_19 : decode cX2_close 19 = .ok (.getfield 21, 3) := by decide +kernel
theorem dX2_close_22 : decode cX2_close 22 = .ok (.aload_n 0, 1) := by decide +kernel
theorem dX2_close_23 : decode cX2_close 23 = .ok (.getfield 21, 3) := by decide +kernel
theorem dX2_close_26 : decode cX2_close 26 = .ok (.getfield 69, 3) := by decide +kernel
theorem dX2_close_29 : decode cX2_close 29 = .ok (.iload_n 2, 1) := by decide +kernel
theorem dX2_close_30 : decode cX2_close 30 = .ok (.invokestatic 80, 3) := by decide +kernel
theorem dX2_close_33 : decode cX2_close 33 = .ok (.putfield 69, 3) := by decide +kernel
theorem dX2_close_36 : decode cX2_close 36 = .ok (.return_, 1) := by decide +kernel
theorem dX2_seen_0 : decode cX2_seen 0 = .ok (.aload_n 0, 1) := by decide +kernel
theorem dX2_seen_1 : decode cX2_seen 1 = .ok (.getfield 25, 3) := by decide +kernel
theorem dX2_seen_4 : decode cX2_seen 4 = .ok (.iload_n 1, 1) := by decide +kernel
theorem dX2_seen_5 : decode cX2_seen 5 = .ok (.iload_n 2, 1) := by decide +kernel
theorem dX2_seen_6 : decode cX2_seen 6 = .ok (.invokevirtual 121, 3) := by decide +kernel
theorem w_713 : Cond.methodLink "QuarterWalks$Grid" 121 yX1_holds ∈ wAll := wI3 138 (by decide +kernel) (by decide +kernel)
theorem w_715 : Cond.selects yX1_holds.cls yX1_holds yX1_holds ∈ wAll := wI3 140 (by decide +kernel) (by decide +kernel)
theorem w_101 : Cond.initialized "QuarterWalks$Box" ∈ wAll := wI1 6 (by decide +kernel) (by decide +kernel)
theorem mk_X1_holds : mk yX1_holds 2 := ⟨by decide +kernel, w_101⟩
theorem w_714 : Cond.instanceMethod yX1_holds ∈ wAll := wI3 139 (by decide +kernel) (by decide +kernel)
theorem w_716 : Cond.code yX1_holds cX1_holds 3 (some .boolean) ∈ wAll := wI3 141 (by decide +kernel) (by decide +kernel)
theorem dX2_seen_9 : decode cX2_seen 9 = .ok (.ifCond .eq 17, 3) := by decide +kernel
theorem dX2_seen_26 : decode cX2_seen 26 = .ok (.lconst 0, 1) := by decide +kernel
theorem dX2_seen_12 : decode cX2_seen 12 = .ok (.aload_n 0, 1) := by decide +kernel
theorem dX2_seen_13 : decode cX2_seen 13 = .ok (.getfield 11, 3) := by decide +kernel
theorem dX2_seen_16 : decode cX2_seen 16 = .ok (.aload_n 0, 1) := by decide +kernel
theorem dX2_seen_17 : decode cX2_seen 17 = .ok (.iload_n 1, 1) := by decide +kernel
theorem dX2_seen_18 : decode cX2_seen 18 = .ok (.iload_n 2, 1) := by decide +kernel
theorem dX2_seen_19 : decode cX2_seen 19 = .ok (.invokevirtual 76, 3) := by decide +kernel
theorem dX2_seen_22 : decode cX2_seen 22 = .ok (.laload, 1) := by decide +kernel
theorem dX2_seen_23 : decode cX2_seen 23 = .ok (.goto 4, 3) := by decide +kernel
theorem dX2_seen_27 : decode cX2_seen 27 = .ok (.lreturn, 1) := by decide +kernel
theorem dX2_total_0 : decode cX2_total 0 = .ok (.lconst 0, 1) := by decide +kernel
theorem dX2_total_1 : decode cX2_total 1 = .ok (.lstore_n 1, 1) := by decide +kernel
theorem dX2_total_2 : decode cX2_total 2 = .ok (.aload_n 0, 1) := by decide +kernel
theorem dX2_total_3 : decode cX2_total 3 = .ok (.getfield 25, 3) := by decide +kernel
theorem dX2_total_6 : decode cX2_total 6 = .ok (.getfield 60, 3) := by decide +kernel
theorem dX2_total_9 : decode cX2_total 9 = .ok (.istore_n 3, 1) := by decide +kernel
theorem dX2_total_10 : decode cX2_total 10 = .ok (.iload_n 3, 1) := by decide +kernel
theorem dX2_total_11 : decode cX2_total 11 = .ok (.aload_n 0, 1) := by decide +kernel
theorem dX2_total_12 : decode cX2_total 12 = .ok (.getfield 25, 3) := by decide +kernel
theorem dX2_total_15 : decode cX2_total 15 = .ok (.getfield 66, 3) := by decide +kernel
theorem dX2_total_18 : decode cX2_total 18 = .ok (.if_icmp .gt 60, 3) := by decide +kernel
theorem dX2_total_78 : decode cX2_total 78 = .ok (.lload_n 1, 1) := by decide +kernel
theorem dX2_total_79 : decode cX2_total 79 = .ok (.invokestatic 125, 3) := by decide +kernel
theorem dX2_total_21 : decode cX2_total 21 = .ok (.aload_n 0, 1) := by decide +kernel
theorem dX2_total_22 : decode cX2_total 22 = .ok (.iload_n 3, 1) := by decide +kernel
theorem dX2_total_23 : decode cX2_total 23 = .ok (.aload_n 0, 1) := by decide +kernel
theorem dX2_total_24 : decode cX2_total 24 = .ok (.getfield 25, 3) := by decide +kernel
theorem dX2_total_27 : decode cX2_total 27 = .ok (.getfield 69, 3) := by decide +kernel
theorem dX2_total_30 : decode cX2_total 30 = .ok (.invokevirtual 76, 3) := by decide +kernel
theorem dX2_total_33 : decode cX2_total 33 = .ok (.istore 4, 2) := by decide +kernel
theorem dX2_total_35 : decode cX2_total 35 = .ok (.aload_n 0, 1) := by decide +kernel
theorem dX2_total_36 : decode cX2_total 36 = .ok (.iload_n 3, 1) := by decide +kernel
theorem dX2_total_37 : decode cX2_total 37 = .ok (.aload_n 0, 1) := by decide +kernel
theorem dX2_total_38 : decode cX2_total 38 = .ok (.getfield 25, 3) := by decide +kernel
theorem dX2_total_41 : decode cX2_total 41 = .ok (.getfield 63, 3) := by decide +kernel
theorem dX2_total_44 : decode cX2_total 44 = .ok (.invokevirtual 76, 3) := by decide +kernel
theorem dX2_total_47 : decode cX2_total 47 = .ok (.istore 5, 2) := by decide +kernel
theorem dX2_total_49 : decode cX2_total 49 = .ok (.iload 5, 2) := by decide +kernel
theorem dX2_total_51 : decode cX2_total 51 = .ok (.iload 4, 2) := by decide +kernel
theorem dX2_total_53 : decode cX2_total 53 = .ok (.if_icmp .gt 19, 3) := by decide +kernel
theorem dX2_total_72 : decode cX2_total 72 = .ok (.iinc 3 1, 3) := by decide +kernel
theorem dX2_total_75 : decode cX2_total 75 = .ok (.goto (-65), 3) := by decide +kernel
theorem dX2_total_56 : decode cX2_total 56 = .ok (.lload_n 1, 1) := by decide +kernel
theorem dX2_total_57 : decode cX2_total 57 = .ok (.aload_n 0, 1) := by decide +kernel
theorem dX2_total_58 : decode cX2_total 58 = .ok (.getfield 11, 3) := by decide +kernel
theorem dX2_total_61 : decode cX2_total 61 = .ok (.iload 5, 2) := by decide +kernel
theorem dX2_total_63 : decode cX2_total 63 = .ok (.laload, 1) := by decide +kernel
theorem dX2_total_64 : decode cX2_total 64 = .ok (.ladd, 1) := by decide +kernel
theorem dX2_total_65 : decode cX2_total 65 = .ok (.lstore_n 1, 1) := by decide +kernel
theorem dX2_total_66 : decode cX2_total 66 = .ok (.iinc 5 1, 3) := by decide +kernel
theorem dX2_total_69 : decode cX2_total 69 = .ok (.goto (-20), 3) := by decide +kernel
theorem dX2_total_82 : decode cX2_total 82 = .ok (.ireturn, 1) := by decide +kernel
theorem dX2_alongLine_0 : decode cX2_alongLine 0 = .ok (.lconst 0, 1) := by decide +kernel
theorem dX2_alongLine_1 : decode cX2_alongLine 1 = .ok (.lstore_n 3, 1) := by decide +kernel
theorem dX2_alongLine_2 : decode cX2_alongLine 2 = .ok (.iconst 0, 1) := by decide +kernel
theorem dX2_alongLine_3 : decode cX2_alongLine 3 = .ok (.istore 5, 2) := by decide +kernel
theorem dX2_alongLine_5 : decode cX2_alongLine 5 = .ok (.iload 5, 2) := by decide +kernel
theorem dX2_alongLine_7 : decode cX2_alongLine 7 = .ok (.bipush 70, 2) := by decide +kernel
theorem dX2_alongLine_9 : decode cX2_alongLine 9 = .ok (.if_icmp .ge 24, 3) := by decide +kernel
theorem dX2_alongLine_12 : decode cX2_alongLine 12 = .ok (.lload_n 3, 1) := by decide +kernel
theorem dX2_alongLine_13 : decode cX2_alongLine 13 = .ok (.aload_n 0, 1) := by decide +kernel
theorem dX2_alongLine_14 : decode cX2_alongLine 14 = .ok (.iload 5, 2) := by decide +kernel
theorem dX2_alongLine_16 : decode cX2_alongLine 16 = .ok (.iload_n 1, 1) := by decide +kernel
theorem dX2_alongLine_17 : decode cX2_alongLine 17 = .ok (.imul, 1) := by decide +kernel
theorem dX2_alongLine_18 : decode cX2_alongLine 18 = .ok (.iload 5, 2) := by decide +kernel
theorem dX2_alongLine_20 : decode cX2_alongLine 20 = .ok (.iload_n 2, 1) := by decide +kernel
theorem dX2_alongLine_21 : decode cX2_alongLine 21 = .ok (.imul, 1) := by decide +kernel
theorem dX2_alongLine_22 : decode cX2_alongLine 22 = .ok (.invokevirtual 132, 3) := by decide +kernel
theorem w_744 : Cond.methodLink "QuarterWalks$Grid" 132 yX2_seen ∈ wAll := wI3 169 (by decide +kernel) (by decide +kernel)
theorem w_711 : Cond.selects yX2_seen.cls yX2_seen yX2_seen ∈ wAll := wI3 136 (by decide +kernel) (by decide +kernel)
theorem mk_X2_seen : mk yX2_seen 2 := ⟨by decide +kernel, w_100⟩
theorem w_710 : Cond.instanceMethod yX2_seen ∈ wAll := wI3 135 (by decide +kernel) (by decide +kernel)
theorem w_712 : Cond.code yX2_seen cX2_seen 3 (some .long) ∈ wAll := wI3 137 (by decide +kernel) (by decide +kernel)
theorem dX2_alongLine_25 : decode cX2_alongLine 25 = .ok (.ladd, 1) := by decide +kernel
theorem dX2_alongLine_26 : decode cX2_alongLine 26 = .ok (.lstore_n 3, 1) := by decide +kernel
theorem dX2_alongLine_27 : decode cX2_alongLine 27 = .ok (.iinc 5 1, 3) := by decide +kernel
theorem dX2_alongLine_30 : decode cX2_alongLine 30 = .ok (.goto (-25), 3) := by decide +kernel
theorem dX2_alongLine_33 : decode cX2_alongLine 33 = .ok (.lload_n 3, 1) := by decide +kernel
theorem dX2_alongLine_34 : decode cX2_alongLine 34 = .ok (.invokestatic 125, 3) := by decide +kernel
theorem dX2_alongLine_37 : decode cX2_alongLine 37 = .ok (.ireturn, 1) := by decide +kernel
theorem dX2_weightOut_0 : decode cX2_weightOut 0 = .ok (.iconst 0, 1) := by decide +kernel
theorem dX2_weightOut_1 : decode cX2_weightOut 1 = .ok (.istore 4, 2) := by decide +kernel
theorem dX2_weightOut_3 : decode cX2_weightOut 3 = .ok (.iconst 0, 1) := by decide +kernel
theorem dX2_weightOut_4 : decode cX2_weightOut 4 = .ok (.istore 5, 2) := by decide +kernel
theorem dX2_weightOut_6 : decode cX2_weightOut 6 = .ok (.iload 5, 2) := by decide +kernel
theorem dX2_weightOut_8 : decode cX2_weightOut 8 = .ok (.bipush 8, 2) := by decide +kernel
theorem dX2_weightOut_10 : decode cX2_weightOut 10 = .ok (.if_icmp .ge 43, 3) := by decide +kernel
theorem dX2_weightOut_13 : decode cX2_weightOut 13 = .ok (.iload_n 2, 1) := by decide +kernel
theorem dX2_weightOut_14 : decode cX2_weightOut 14 = .ok (.getstatic 97, 3) := by decide +kernel
theorem dX2_weightOut_17 : decode cX2_weightOut 17 = .ok (.iload 5, 2) := by decide +kernel
theorem dX2_weightOut_19 : decode cX2_weightOut 19 = .ok (.iaload, 1) := by decide +kernel
theorem dX2_weightOut_20 : decode cX2_weightOut 20 = .ok (.iadd, 1) := by decide +kernel
theorem dX2_weightOut_21 : decode cX2_weightOut 21 = .ok (.ifCond .lt 14, 3) := by decide +kernel
theorem dX2_weightOut_35 : decode cX2_weightOut 35 = .ok (.iload 4, 2) := by decide +kernel
theorem dX2_weightOut_37 : decode cX2_weightOut 37 = .ok (.aload_n 1, 1) := by decide +kernel
theorem dX2_weightOut_38 : decode cX2_weightOut 38 = .ok (.getfield 94, 3) := by decide +kernel
theorem dX2_weightOut_41 : decode cX2_weightOut 41 = .ok (.iload 5, 2) := by decide +kernel
theorem dX2_weightOut_43 : decode cX2_weightOut 43 = .ok (.iaload, 1) := by decide +kernel
theorem dX2_weightOut_44 : decode cX2_weightOut 44 = .ok (.iadd, 1) := by decide +kernel
theorem dX2_weightOut_45 : decode cX2_weightOut 45 = .ok (.istore 4, 2) := by decide +kernel
theorem dX2_weightOut_47 : decode cX2_weightOut 47 = .ok (.iinc 5 1, 3) := by decide +kernel
theorem dX2_weightOut_50 : decode cX2_weightOut 50 = .ok (.goto (-44), 3) := by decide +kernel
theorem dX2_weightOut_24 : decode cX2_weightOut 24 = .ok (.iload_n 3, 1) := by decide +kernel
theorem dX2_weightOut_25 : decode cX2_weightOut 25 = .ok (.getstatic 100, 3) := by decide +kernel
theorem dX2_weightOut_28 : decode cX2_weightOut 28 = .ok (.iload 5, 2) := by decide +kernel
theorem dX2_weightOut_30 : decode cX2_weightOut 30 = .ok (.iaload, 1) := by decide +kernel
theorem dX2_weightOut_31 : decode cX2_weightOut 31 = .ok (.iadd, 1) := by decide +kernel
theorem dX2_weightOut_32 : decode cX2_weightOut 32 = .ok (.ifCond .ge 15, 3) := by decide +kernel
theorem dX2_weightOut_53 : decode cX2_weightOut 53 = .ok (.iload 4, 2) := by decide +kernel
theorem dX2_weightOut_55 : decode cX2_weightOut 55 = .ok (.ireturn, 1) := by decide +kernel
theorem dX2_leaving_0 : decode cX2_leaving 0 = .ok (.lconst 0, 1) := by decide +kernel
theorem dX2_leaving_1 : decode cX2_leaving 1 = .ok (.lstore_n 2, 1) := by decide +kernel
theorem dX2_leaving_2 : decode cX2_leaving 2 = .ok (.aload_n 0, 1) := by decide +kernel
theorem dX2_leaving_3 : decode cX2_leaving 3 = .ok (.getfield 25, 3) := by decide +kernel
theorem dX2_leaving_6 : decode cX2_leaving 6 = .ok (.getfield 60, 3) := by decide +kernel
theorem dX2_leaving_9 : decode cX2_leaving 9 = .ok (.istore 4, 2) := by decide +kernel
theorem dX2_leaving_11 : decode cX2_leaving 11 = .ok (.iload 4, 2) := by decide +kernel
theorem dX2_leaving_13 : decode cX2_leaving 13 = .ok (.aload_n 0, 1) := by decide +kernel
theorem dX2_leaving_14 : decode cX2_leaving 14 = .ok (.getfield 25, 3) := by decide +kernel
theorem dX2_leaving_17 : decode cX2_leaving 17 = .ok (.getfield 66, 3) := by decide +kernel
theorem dX2_leaving_20 : decode cX2_leaving 20 = .ok (.if_icmp .gt 68, 3) := by decide +kernel
theorem dX2_leaving_88 : decode cX2_leaving 88 = .ok (.lload_n 2, 1) := by decide +kernel
theorem dX2_leaving_89 : decode cX2_leaving 89 = .ok (.invokestatic 125, 3) := by decide +kernel
theorem dX2_leaving_23 : decode cX2_leaving 23 = .ok (.aload_n 0, 1) := by decide +kernel
theorem dX2_leaving_24 : decode cX2_leaving 24 = .ok (.getfield 25, 3) := by decide +kernel
theorem dX2_leaving_27 : decode cX2_leaving 27 = .ok (.getfield 63, 3) := by decide +kernel
theorem dX2_leaving_30 : decode cX2_leaving 30 = .ok (.istore 5, 2) := by decide +kernel
theorem dX2_leaving_32 : decode cX2_leaving 32 = .ok (.iload 5, 2) := by decide +kernel
theorem dX2_leaving_34 : decode cX2_leaving 34 = .ok (.aload_n 0, 1) := by decide +kernel
theorem dX2_leaving_35 : decode cX2_leaving 35 = .ok (.getfield 25, 3) := by decide +kernel
theorem dX2_leaving_38 : decode cX2_leaving 38 = .ok (.getfield 69, 3) := by decide +kernel
theorem dX2_leaving_41 : decode cX2_leaving 41 = .ok (.if_icmp .gt 41, 3) := by decide +kernel
theorem dX2_leaving_82 : decode cX2_leaving 82 = .ok (.iinc 4 1, 3) := by decide +kernel
theorem dX2_leaving_85 : decode cX2_leaving 85 = .ok (.goto (-74), 3) := by decide +kernel
theorem dX2_leaving_44 : decode cX2_leaving 44 = .ok (.iload 4, 2) := by decide +kernel
theorem dX2_leaving_46 : decode cX2_leaving 46 = .ok (.ifCond .eq 8, 3) := by decide +kernel
theorem dX2_leaving_54 : decode cX2_leaving 54 = .ok (.lload_n 2, 1) := by decide +kernel
theorem dX2_leaving_55 : decode cX2_leaving 55 = .ok (.aload_n 0, 1) := by decide +kernel
theorem dX2_leaving_56 : decode cX2_leaving 56 = .ok (.iload 4, 2) := by decide +kernel
theorem dX2_leaving_58 : decode cX2_leaving 58 = .ok (.iload 5, 2) := by decide +kernel
theorem dX2_leaving_60 : decode cX2_leaving 60 = .ok (.invokevirtual 132, 3) := by decide +kernel
theorem dX2_leaving_63 : decode cX2_leaving 63 = .ok (.aload_n 0, 1) := by decide +kernel
theorem dX2_leaving_64 : decode cX2_leaving 64 = .ok (.aload_n 1, 1) := by decide +kernel
theorem dX2_leaving_65 : decode cX2_leaving 65 = .ok (.iload 4, 2) := by decide +kernel
theorem dX2_leaving_67 : decode cX2_leaving 67 = .ok (.iload 5, 2) := by decide +kernel
theorem dX2_leaving_69 : decode cX2_leaving 69 = .ok (.invokevirtual 139, 3) := by decide +kernel
theorem w_843 : Cond.methodLink "QuarterWalks$Grid" 139 yX2_weightOut ∈ wAll := wI4 28 (by decide +kernel) (by decide +kernel)
theorem w_22 : Cond.selects yX2_weightOut.cls yX2_weightOut yX2_weightOut ∈ wAll := wIn 22 (by decide +kernel) (by decide +kernel)
theorem mk_X2_weightOut : mk yX2_weightOut 3 := ⟨by decide +kernel, w_100⟩
theorem w_845 : Cond.instanceMethod yX2_weightOut ∈ wAll := wI4 30 (by decide +kernel) (by decide +kernel)
theorem w_846 : Cond.code yX2_weightOut cX2_weightOut 6 (some .int) ∈ wAll := wI4 31 (by decide +kernel) (by decide +kernel)
theorem dX2_leaving_72 : decode cX2_leaving 72 = .ok (.i2l, 1) := by decide +kernel
theorem dX2_leaving_73 : decode cX2_leaving 73 = .ok (.lmul, 1) := by decide +kernel
theorem dX2_leaving_74 : decode cX2_leaving 74 = .ok (.ladd, 1) := by decide +kernel
theorem dX2_leaving_75 : decode cX2_leaving 75 = .ok (.lstore_n 2, 1) := by decide +kernel
theorem dX2_leaving_76 : decode cX2_leaving 76 = .ok (.iinc 5 1, 3) := by decide +kernel
theorem dX2_leaving_79 : decode cX2_leaving 79 = .ok (.goto (-47), 3) := by decide +kernel
theorem dX2_leaving_49 : decode cX2_leaving 49 = .ok (.iload 5, 2) := by decide +kernel
theorem dX2_leaving_51 : decode cX2_leaving 51 = .ok (.ifCond .ne 25, 3) := by decide +kernel
theorem dX2_leaving_92 : decode cX2_leaving 92 = .ok (.ireturn, 1) := by decide +kernel
theorem dX2_valueAt_0 : decode cX2_valueAt 0 = .ok (.iconst 0, 1) := by decide +kernel
theorem dX2_valueAt_1 : decode cX2_valueAt 1 = .ok (.istore_n 3, 1) := by decide +kernel
theorem dX2_valueAt_2 : decode cX2_valueAt 2 = .ok (.aload_n 0, 1) := by decide +kernel
theorem dX2_valueAt_3 : decode cX2_valueAt 3 = .ok (.getfield 25, 3) := by decide +kernel
theorem dX2_valueAt_6 : decode cX2_valueAt 6 = .ok (.getfield 66, 3) := by decide +kernel
theorem dX2_valueAt_9 : decode cX2_valueAt 9 = .ok (.istore 4, 2) := by decide +kernel
theorem dX2_valueAt_11 : decode cX2_valueAt 11 = .ok (.iload 4, 2) := by decide +kernel
theorem dX2_valueAt_13 : decode cX2_valueAt 13 = .ok (.ifCond .lt 65, 3) := by decide +kernel
theorem dX2_valueAt_78 : decode cX2_valueAt 78 = .ok (.iload_n 3, 1) := by decide +kernel
theorem dX2_valueAt_16 : decode cX2_valueAt 16 = .ok (.iconst 0, 1) := by decide +kernel
theorem dX2_valueAt_17 : decode cX2_valueAt 17 = .ok (.istore 5, 2) := by decide +kernel
theorem dX2_valueAt_19 : decode cX2_valueAt 19 = .ok (.aload_n 0, 1) := by decide +kernel
theorem dX2_valueAt_20 : decode cX2_valueAt 20 = .ok (.getfield 25, 3) := by decide +kernel
theorem dX2_valueAt_23 : decode cX2_valueAt 23 = .ok (.getfield 69, 3) := by decide +kernel
theorem dX2_valueAt_26 : decode cX2_valueAt 26 = .ok (.istore 6, 2) := by decide +kernel
theorem dX2_valueAt_28 : decode cX2_valueAt 28 = .ok (.iload 6, 2) := by decide +kernel
theorem dX2_valueAt_30 : decode cX2_valueAt 30 = .ok (.ifCond .lt 29, 3) := by decide +kernel
theorem dX2_valueAt_59 : decode cX2_valueAt 59 = .ok (.iload_n 3, 1) := by decide +kernel
theorem dX2_valueAt_60 : decode cX2_valueAt 60 = .ok (.i2l, 1) := by decide +kernel
theorem dX2_valueAt_61 : decode cX2_valueAt 61 = .ok (.iload_n 1, 1) := by decide +kernel
theorem dX2_valueAt_62 : decode cX2_valueAt 62 = .ok (.i2l, 1) := by decide +kernel
theorem dX2_valueAt_63 : decode cX2_valueAt 63 = .ok (.lmul, 1) := by decide +kernel
theorem dX2_valueAt_64 : decode cX2_valueAt 64 = .ok (.iload 5, 2) := by decide +kernel
theorem dX2_valueAt_66 : decode cX2_valueAt 66 = .ok (.i2l, 1) := by decide +kernel
theorem dX2_valueAt_67 : decode cX2_valueAt 67 = .ok (.ladd, 1) := by decide +kernel
theorem dX2_valueAt_68 : decode cX2_valueAt 68 = .ok (.invokestatic 125, 3) := by decide +kernel
theorem dX2_valueAt_71 : decode cX2_valueAt 71 = .ok (.istore_n 3, 1) := by decide +kernel
theorem dX2_valueAt_72 : decode cX2_valueAt 72 = .ok (.iinc 4 (-1), 3) := by decide +kernel
theorem dX2_valueAt_75 : decode cX2_valueAt 75 = .ok (.goto (-64), 3) := by decide +kernel
theorem dX2_valueAt_33 : decode cX2_valueAt 33 = .ok (.iload 5, 2) := by decide +kernel
theorem dX2_valueAt_35 : decode cX2_valueAt 35 = .ok (.i2l, 1) := by decide +kernel
theorem dX2_valueAt_36 : decode cX2_valueAt 36 = .ok (.iload_n 2, 1) := by decide +kernel
theorem dX2_valueAt_37 : decode cX2_valueAt 37 = .ok (.i2l, 1) := by decide +kernel
theorem dX2_valueAt_38 : decode cX2_valueAt 38 = .ok (.lmul, 1) := by decide +kernel
theorem dX2_valueAt_39 : decode cX2_valueAt 39 = .ok (.aload_n 0, 1) := by decide +kernel
theorem dX2_valueAt_40 : decode cX2_valueAt 40 = .ok (.iload 4, 2) := by decide +kernel
theorem dX2_valueAt_42 : decode cX2_valueAt 42 = .ok (.iload 6, 2) := by decide +kernel
theorem dX2_valueAt_44 : decode cX2_valueAt 44 = .ok (.invokevirtual 132, 3) := by decide +kernel
theorem dX2_valueAt_47 : decode cX2_valueAt 47 = .ok (.ladd, 1) := by decide +kernel
theorem dX2_valueAt_48 : decode cX2_valueAt 48 = .ok (.invokestatic 125, 3) := by decide +kernel
theorem dX2_valueAt_51 : decode cX2_valueAt 51 = .ok (.istore 5, 2) := by decide +kernel
theorem dX2_valueAt_53 : decode cX2_valueAt 53 = .ok (.iinc 6 (-1), 3) := by decide +kernel
theorem dX2_valueAt_56 : decode cX2_valueAt 56 = .ok (.goto (-28), 3) := by decide +kernel
theorem dX2_valueAt_79 : decode cX2_valueAt 79 = .ok (.ireturn, 1) := by decide +kernel
theorem dX2_highest_0 : decode cX2_highest 0 = .ok (.lconst 0, 1) := by decide +kernel
theorem dX2_highest_1 : decode cX2_highest 1 = .ok (.lstore_n 2, 1) := by decide +kernel
theorem dX2_highest_2 : decode cX2_highest 2 = .ok (.iconst 0, 1) := by decide +kernel
theorem dX2_highest_3 : decode cX2_highest 3 = .ok (.istore 4, 2) := by decide +kernel
theorem dX2_highest_5 : decode cX2_highest 5 = .ok (.iconst 0, 1) := by decide +kernel
theorem dX2_highest_6 : decode cX2_highest 6 = .ok (.istore 5, 2) := by decide +kernel
theorem dX2_highest_8 : decode cX2_highest 8 = .ok (.aload_n 0, 1) := by decide +kernel
theorem dX2_highest_9 : decode cX2_highest 9 = .ok (.getfield 25, 3) := by decide +kernel
theorem dX2_highest_12 : decode cX2_highest 12 = .ok (.getfield 60, 3) := by decide +kernel
theorem dX2_highest_15 : decode cX2_highest 15 = .ok (.istore 6, 2) := by decide +kernel
theorem dX2_highest_17 : decode cX2_highest 17 = .ok (.iload 6, 2) := by decide +kernel
theorem dX2_highest_19 : decode cX2_highest 19 = .ok (.aload_n 0, 1) := by decide +kernel
theorem dX2_highest_20 : decode cX2_highest 20 = .ok (.getfield 25, 3) := by decide +kernel
theorem dX2_highest_23 : decode cX2_highest 23 = .ok (.getfield 66, 3) := by decide +kernel
theorem dX2_highest_26 : decode cX2_highest 26 = .ok (.if_icmp .gt 66, 3) := by decide +kernel
theorem dX2_highest_92 : decode cX2_highest 92 = .ok (.lload_n 2, 1) := by decide +kernel
theorem dX2_highest_93 : decode cX2_highest 93 = .ok (.lconst 0, 1) := by decide +kernel
theorem dX2_highest_94 : decode cX2_highest 94 = .ok (.lcmp, 1) := by decide +kernel
theorem dX2_highest_95 : decode cX2_highest 95 = .ok (.ifCond .ne 6, 3) := by decide +kernel
theorem dX2_highest_101 : decode cX2_highest 101 = .ok (.iload_n 1, 1) := by decide +kernel
theorem dX2_highest_102 : decode cX2_highest 102 = .ok (.ifCond .ne 6, 3) := by decide +kernel
theorem dX2_highest_108 : decode cX2_highest 108 = .ok (.iload_n 1, 1) := by decide +kernel
theorem dX2_highest_109 : decode cX2_highest 109 = .ok (.iconst 1, 1) := by decide +kernel
theorem dX2_highest_110 : decode cX2_highest 110 = .ok (.if_icmp .ne 8, 3) := by decide +kernel
theorem dX2_highest_118 : decode cX2_highest 118 = .ok (.lload_n 2, 1) := by decide +kernel
theorem dX2_highest_119 : decode cX2_highest 119 = .ok (.l2i, 1) := by decide +kernel
theorem dX2_highest_113 : decode cX2_highest 113 = .ok (.iload 5, 2) := by decide +kernel
theorem dX2_highest_115 : decode cX2_highest 115 = .ok (.goto 5, 3) := by decide +kernel
theorem dX2_highest_105 : decode cX2_highest 105 = .ok (.iload 4, 2) := by decide +kernel
theorem dX2_highest_98 : decode cX2_highest 98 = .ok (.ldc 143, 2) := by decide +kernel
theorem w_904 : Cond.constant "QuarterWalks$Grid" 143 (-1000000) ∈ wAll := wI4 89 (by decide +kernel) (by decide +kernel)
theorem dX2_highest_29 : decode cX2_highest 29 = .ok (.aload_n 0, 1) := by decide +kernel
theorem dX2_highest_30 : decode cX2_highest 30 = .ok (.getfield 25, 3) := by decide +kernel
theorem dX2_highest_33 : decode cX2_highest 33 = .ok (.getfield 63, 3) := by decide +kernel
theorem dX2_highest_36 : decode cX2_highest 36 = .ok (.istore 7, 2) := by decide +kernel
theorem dX2_highest_38 : decode cX2_highest 38 = .ok (.iload 7, 2) := by decide +kernel
theorem dX2_highest_40 : decode cX2_highest 40 = .ok (.aload_n 0, 1) := by decide +kernel
theorem dX2_highest_41 : decode cX2_highest 41 = .ok (.getfield 25, 3) := by decide +kernel
theorem dX2_highest_44 : decode cX2_highest 44 = .ok (.getfield 69, 3) := by decide +kernel
theorem dX2_highest_47 : decode cX2_highest 47 = .ok (.if_icmp .gt 39, 3) := by decide +kernel
theorem dX2_highest_86 : decode cX2_highest 86 = .ok (.iinc 6 1, 3) := by decide +kernel
theorem dX2_highest_89 : decode cX2_highest 89 = .ok (.goto (-72), 3) := by decide +kernel
theorem dX2_highest_50 : decode cX2_highest 50 = .ok (.aload_n 0, 1) := by decide +kernel
theorem dX2_highest_51 : decode cX2_highest 51 = .ok (.iload 6, 2) := by decide +kernel
theorem dX2_highest_53 : decode cX2_highest 53 = .ok (.iload 7, 2) := by decide +kernel
theorem dX2_highest_55 : decode cX2_highest 55 = .ok (.invokevirtual 132, 3) := by decide +kernel
theorem dX2_highest_58 : decode cX2_highest 58 = .ok (.lload_n 2, 1) := by decide +kernel
theorem dX2_highest_59 : decode cX2_highest 59 = .ok (.lcmp, 1) := by decide +kernel
theorem dX2_highest_60 : decode cX2_highest 60 = .ok (.ifCond .le 20, 3) := by decide +kernel
theorem dX2_highest_80 : decode cX2_highest 80 = .ok (.iinc 7 1, 3) := by decide +kernel
theorem dX2_highest_83 : decode cX2_highest 83 = .ok (.goto (-45), 3) := by decide +kernel
theorem dX2_highest_63 : decode cX2_highest 63 = .ok (.aload_n 0, 1) := by decide +kernel
theorem dX2_highest_64 : decode cX2_highest 64 = .ok (.iload 6, 2) := by decide +kernel
theorem dX2_highest_66 : decode cX2_highest 66 = .ok (.iload 7, 2) := by decide +kernel
theorem dX2_highest_68 : decode cX2_highest 68 = .ok (.invokevirtual 132, 3) := by decide +kernel
theorem dX2_highest_71 : decode cX2_highest 71 = .ok (.lstore_n 2, 1) := by decide +kernel
theorem dX2_highest_72 : decode cX2_highest 72 = .ok (.iload 6, 2) := by decide +kernel
theorem dX2_highest_74 : decode cX2_highest 74 = .ok (.istore 4, 2) := by decide +kernel
theorem dX2_highest_76 : decode cX2_highest 76 = .ok (.iload 7, 2) := by decide +kernel
theorem dX2_highest_78 : decode cX2_highest 78 = .ok (.istore 5, 2) := by decide +kernel
theorem dX2_highest_120 : decode cX2_highest 120 = .ok (.ireturn, 1) := by decide +kernel
theorem dX2_highest_107 : decode cX2_highest 107 = .ok (.ireturn, 1) := by decide +kernel
theorem dX2_highest_100 : decode cX2_highest 100 = .ok (.ireturn, 1) := by decide +kernel
theorem dX2_filledCells_0 : decode cX2_filledCells 0 = .ok (.iconst 0, 1) := by decide +kernel
theorem dX2_filledCells_1 : decode cX2_filledCells 1 = .ok (.istore_n 1, 1) := by decide +kernel
theorem dX2_filledCells_2 : decode cX2_filledCells 2 = .ok (.aload_n 0, 1) := by decide +kernel
theorem dX2_filledCells_3 : decode cX2_filledCells 3 = .ok (.getfield 25, 3) := by decide +kernel
theorem dX2_filledCells_6 : decode cX2_filledCells 6 = .ok (.getfield 60, 3) := by decide +kernel
theorem dX2_filledCells_9 : decode cX2_filledCells 9 = .ok (.istore_n 2, 1) := by decide +kernel
theorem dX2_filledCells_10 : decode cX2_filledCells 10 = .ok (.iload_n 2, 1) := by decide +kernel
theorem dX2_filledCells_11 : decode cX2_filledCells 11 = .ok (.aload_n 0, 1) := by decide +kernel
theorem dX2_filledCells_12 : decode cX2_filledCells 12 = .ok (.getfield 25, 3) := by decide +kernel
theorem dX2_filledCells_15 : decode cX2_filledCells 15 = .ok (.getfield 66, 3) := by decide +kernel
theorem dX2_filledCells_18 : decode cX2_filledCells 18 = .ok (.if_icmp .gt 48, 3) := by decide +kernel
theorem dX2_filledCells_66 : decode cX2_filledCells 66 = .ok (.iload_n 1, 1) := by decide +kernel
theorem dX2_filledCells_21 : decode cX2_filledCells 21 = .ok (.aload_n 0, 1) := by decide +kernel
theorem dX2_filledCells_22 : decode cX2_filledCells 22 = .ok (.getfield 25, 3) := by decide +kernel
theorem dX2_filledCells_25 : decode cX2_filledCells 25 = .ok (.getfield 63, 3) := by decide +kernel
theorem dX2_filledCells_28 : decode cX2_filledCells 28 = .ok (.istore_n 3, 1) := by decide +kernel
theorem dX2_filledCells_29 : decode cX2_filledCells 29 = .ok (.iload_n 3, 1) := by decide +kernel
theorem dX2_filledCells_30 : decode cX2_filledCells 30 = .ok (.aload_n 0, 1) := by decide +kernel
theorem dX2_filledCells_31 : decode cX2_filledCells 31 = .ok (.getfield 25, 3) := by decide +kernel
theorem dX2_filledCells_34 : decode cX2_filledCells 34 = .ok (.getfield 69, 3) := by decide +kernel
theorem dX2_filledCells_37 : decode cX2_filledCells 37 = .ok (.if_icmp .gt 23, 3) := by decide +kernel
theorem dX2_filledCells_60 : decode cX2_filledCells 60 = .ok (.iinc 2 1, 3) := by decide +kernel
theorem dX2_filledCells_63 : decode cX2_filledCells 63 = .ok (.goto (-53), 3) := by decide +kernel
theorem dX2_filledCells_40 : decode cX2_filledCells 40 = .ok (.aload_n 0, 1) := by decide +kernel
theorem dX2_filledCells_41 : decode cX2_filledCells 41 = .ok (.iload_n 2, 1) := by decide +kernel
theorem dX2_filledCells_42 : decode cX2_filledCells 42 = .ok (.iload_n 3, 1) := by decide +kernel
theorem dX2_filledCells_43 : decode cX2_filledCells 43 = .ok (.invokevirtual 132, 3) := by decide +kernel
theorem dX2_filledCells_46 : decode cX2_filledCells 46 = .ok (.lconst 0, 1) := by decide +kernel
theorem dX2_filledCells_47 : decode cX2_filledCells 47 = .ok (.lcmp, 1) := by decide +kernel
theorem dX2_filledCells_48 : decode cX2_filledCells 48 = .ok (.ifCond .eq 6, 3) := by decide +kernel
theorem dX2_filledCells_54 : decode cX2_filledCells 54 = .ok (.iinc 3 1, 3) := by decide +kernel
theorem dX2_filledCells_57 : decode cX2_filledCells 57 = .ok (.goto (-28), 3) := by decide +kernel
theorem dX2_filledCells_51 : decode cX2_filledCells 51 = .ok (.iinc 1 1, 3) := by decide +kernel
theorem dX2_filledCells_67 : decode cX2_filledCells 67 = .ok (.ireturn, 1) := by decide +kernel
theorem dX2_stepsInside_0 : decode cX2_stepsInside 0 = .ok (.iconst 0, 1) := by decide +kernel
theorem dX2_stepsInside_1 : decode cX2_stepsInside 1 = .ok (.istore_n 2, 1) := by decide +kernel
theorem dX2_stepsInside_2 : decode cX2_stepsInside 2 = .ok (.iconst 0, 1) := by decide +kernel
theorem dX2_stepsInside_3 : decode cX2_stepsInside 3 = .ok (.istore_n 3, 1) := by decide +kernel
theorem dX2_stepsInside_4 : decode cX2_stepsInside 4 = .ok (.iload_n 3, 1) := by decide +kernel
theorem dX2_stepsInside_5 : decode cX2_stepsInside 5 = .ok (.bipush 8, 2) := by decide +kernel
theorem dX2_stepsInside_7 : decode cX2_stepsInside 7 = .ok (.if_icmp .ge 35, 3) := by decide +kernel
theorem dX2_stepsInside_10 : decode cX2_stepsInside 10 = .ok (.iload_n 0, 1) := by decide +kernel
theorem dX2_stepsInside_11 : decode cX2_stepsInside 11 = .ok (.getstatic 97, 3) := by decide +kernel
theorem dX2_stepsInside_14 : decode cX2_stepsInside 14 = .ok (.iload_n 3, 1) := by decide +kernel
theorem dX2_stepsInside_15 : decode cX2_stepsInside 15 = .ok (.iaload, 1) := by decide +kernel
theorem dX2_stepsInside_16 : decode cX2_stepsInside 16 = .ok (.iadd, 1) := by decide +kernel
theorem dX2_stepsInside_17 : decode cX2_stepsInside 17 = .ok (.ifCond .lt 19, 3) := by decide +kernel
theorem dX2_stepsInside_36 : decode cX2_stepsInside 36 = .ok (.iinc 3 1, 3) := by decide +kernel
theorem dX2_stepsInside_39 : decode cX2_stepsInside 39 = .ok (.goto (-35), 3) := by decide +kernel
theorem dX2_stepsInside_20 : decode cX2_stepsInside 20 = .ok (.iload_n 1, 1) := by decide +kernel
theorem dX2_stepsInside_21 : decode cX2_stepsInside 21 = .ok (.getstatic 100, 3) := by decide +kernel
theorem dX2_stepsInside_24 : decode cX2_stepsInside 24 = .ok (.iload_n 3, 1) := by decide +kernel
theorem dX2_stepsInside_25 : decode cX2_stepsInside 25 = .ok (.iaload, 1) := by decide +kernel
theorem dX2_stepsInside_26 : decode cX2_stepsInside 26 = .ok (.iadd, 1) := by decide +kernel
theorem dX2_stepsInside_27 : decode cX2_stepsInside 27 = .ok (.ifCond .lt 9, 3) := by decide +kernel
theorem dX2_stepsInside_30 : decode cX2_stepsInside 30 = .ok (.iload_n 2, 1) := by decide +kernel
theorem dX2_stepsInside_31 : decode cX2_stepsInside 31 = .ok (.iconst 1, 1) := by decide +kernel
theorem dX2_stepsInside_32 : decode cX2_stepsInside 32 = .ok (.iload_n 3, 1) := by decide +kernel
theorem dX2_stepsInside_33 : decode cX2_stepsInside 33 = .ok (.ishl, 1) := by decide +kernel
theorem dX2_stepsInside_34 : decode cX2_stepsInside 34 = .ok (.ior, 1) := by decide +kernel
theorem dX2_stepsInside_35 : decode cX2_stepsInside 35 = .ok (.istore_n 2, 1) := by decide +kernel
theorem dX2_stepsInside_42 : decode cX2_stepsInside 42 = .ok (.iload_n 2, 1) := by decide +kernel
theorem dX2_stepsInside_43 : decode cX2_stepsInside 43 = .ok (.ireturn, 1) := by decide +kernel
theorem dX2_staying_0 : decode cX2_staying 0 = .ok (.iconst 0, 1) := by decide +kernel
theorem dX2_staying_1 : decode cX2_staying 1 = .ok (.istore_n 1, 1) := by decide +kernel
theorem dX2_staying_2 : decode cX2_staying 2 = .ok (.aload_n 0, 1) := by decide +kernel
theorem dX2_staying_3 : decode cX2_staying 3 = .ok (.getfield 25, 3) := by decide +kernel
theorem dX2_staying_6 : decode cX2_staying 6 = .ok (.getfield 60, 3) := by decide +kernel
theorem dX2_staying_9 : decode cX2_staying 9 = .ok (.istore_n 2, 1) := by decide +kernel
theorem dX2_staying_10 : decode cX2_staying 10 = .ok (.iload_n 2, 1) := by decide +kernel
theorem dX2_staying_11 : decode cX2_staying 11 = .ok (.aload_n 0, 1) := by decide +kernel
theorem dX2_staying_12 : decode cX2_staying 12 = .ok (.getfield 25, 3) := by decide +kernel
theorem dX2_staying_15 : decode cX2_staying 15 = .ok (.getfield 66, 3) := by decide +kernel
theorem dX2_staying_18 : decode cX2_staying 18 = .ok (.if_icmp .gt 53, 3) := by decide +kernel
theorem dX2_staying_71 : decode cX2_staying 71 = .ok (.iload_n 1, 1) := by decide +kernel
theorem dX2_staying_21 : decode cX2_staying 21 = .ok (.aload_n 0, 1) := by decide +kernel
theorem dX2_staying_22 : decode cX2_staying 22 = .ok (.getfield 25, 3) := by decide +kernel
theorem dX2_staying_25 : decode cX2_staying 25 = .ok (.getfield 63, 3) := by decide +kernel
theorem dX2_staying_28 : decode cX2_staying 28 = .ok (.istore_n 3, 1) := by decide +kernel
theorem dX2_staying_29 : decode cX2_staying 29 = .ok (.iload_n 3, 1) := by decide +kernel
theorem dX2_staying_30 : decode cX2_staying 30 = .ok (.aload_n 0, 1) := by decide +kernel
theorem dX2_staying_31 : decode cX2_staying 31 = .ok (.getfield 25, 3) := by decide +kernel
theorem dX2_staying_34 : decode cX2_staying 34 = .ok (.getfield 69, 3) := by decide +kernel
theorem dX2_staying_37 : decode cX2_staying 37 = .ok (.if_icmp .gt 28, 3) := by decide +kernel
theorem dX2_staying_65 : decode cX2_staying 65 = .ok (.iinc 2 1, 3) := by decide +kernel
theorem dX2_staying_68 : decode cX2_staying 68 = .ok (.goto (-58), 3) := by decide +kernel
theorem dX2_staying_40 : decode cX2_staying 40 = .ok (.aload_n 0, 1) := by decide +kernel
theorem dX2_staying_41 : decode cX2_staying 41 = .ok (.iload_n 2, 1) := by decide +kernel
theorem dX2_staying_42 : decode cX2_staying 42 = .ok (.iload_n 3, 1) := by decide +kernel
theorem dX2_staying_43 : decode cX2_staying 43 = .ok (.invokevirtual 132, 3) := by decide +kernel
theorem dX2_staying_46 : decode cX2_staying 46 = .ok (.lconst 0, 1) := by decide +kernel
theorem dX2_staying_47 : decode cX2_staying 47 = .ok (.lcmp, 1) := by decide +kernel
theorem dX2_staying_48 : decode cX2_staying 48 = .ok (.ifCond .eq 11, 3) := by decide +kernel
theorem dX2_staying_59 : decode cX2_staying 59 = .ok (.iinc 3 1, 3) := by decide +kernel
theorem dX2_staying_62 : decode cX2_staying 62 = .ok (.goto (-33), 3) := by decide +kernel
theorem dX2_staying_51 : decode cX2_staying 51 = .ok (.iload_n 1, 1) := by decide +kernel
theorem dX2_staying_52 : decode cX2_staying 52 = .ok (.iload_n 2, 1) := by decide +kernel
theorem dX2_staying_53 : decode cX2_staying 53 = .ok (.iload_n 3, 1) := by decide +kernel
theorem dX2_staying_54 : decode cX2_staying 54 = .ok (.invokestatic 144, 3) := by decide +kernel
theorem w_1003 : Cond.methodLink "QuarterWalks$Grid" 144 yX2_stepsInside ∈ wAll := wI4 188 (by decide +kernel) (by decide +kernel)
theorem mk_X2_stepsInside : mk yX2_stepsInside 2 := ⟨by decide +kernel, w_100⟩
theorem w_1004 : Cond.static yX2_stepsInside ∈ wAll := wI4 189 (by decide +kernel) (by decide +kernel)
theorem w_1005 : Cond.code yX2_stepsInside cX2_stepsInside 4 (some .int) ∈ wAll := wI4 190 (by decide +kernel) (by decide +kernel)
theorem dX2_staying_57 : decode cX2_staying 57 = .ok (.ior, 1) := by decide +kernel
theorem dX2_staying_58 : decode cX2_staying 58 = .ok (.istore_n 1, 1) := by decide +kernel
theorem dX2_staying_72 : decode cX2_staying 72 = .ok (.ireturn, 1) := by decide +kernel
theorem dX2_copyQuarter_0 : decode cX2_copyQuarter 0 = .ok (.iconst 0, 1) := by decide +kernel
theorem dX2_copyQuarter_1 : decode cX2_copyQuarter 1 = .ok (.istore_n 2, 1) := by decide +kernel
theorem dX2_copyQuarter_2 : decode cX2_copyQuarter 2 = .ok (.iload_n 2, 1) := by decide +kernel
theorem dX2_copyQuarter_3 : decode cX2_copyQuarter 3 = .ok (.bipush 70, 2) := by decide +kernel
theorem dX2_copyQuarter_5 : decode cX2_copyQuarter 5 = .ok (.if_icmp .ge 48, 3) := by decide +kernel
theorem dX2_copyQuarter_8 : decode cX2_copyQuarter 8 = .ok (.iconst 0, 1) := by decide +kernel
theorem dX2_copyQuarter_9 : decode cX2_copyQuarter 9 = .ok (.istore_n 3, 1) := by decide +kernel
theorem dX2_copyQuarter_10 : decode cX2_copyQuarter 10 = .ok (.iload_n 3, 1) := by decide +kernel
theorem dX2_copyQuarter_11 : decode cX2_copyQuarter 11 = .ok (.bipush 70, 2) := by decide +kernel
theorem dX2_copyQuarter_13 : decode cX2_copyQuarter 13 = .ok (.if_icmp .ge 34, 3) := by decide +kernel
theorem dX2_copyQuarter_16 : decode cX2_copyQuarter 16 = .ok (.iload_n 2, 1) := by decide +kernel
theorem dX2_copyQuarter_17 : decode cX2_copyQuarter 17 = .ok (.bipush 70, 2) := by decide +kernel
theorem dX2_copyQuarter_19 : decode cX2_copyQuarter 19 = .ok (.imul, 1) := by decide +kernel
theorem dX2_copyQuarter_20 : decode cX2_copyQuarter 20 = .ok (.iload_n 3, 1) := by decide +kernel
theorem dX2_copyQuarter_21 : decode cX2_copyQuarter 21 = .ok (.iadd, 1) := by decide +kernel
theorem dX2_copyQuarter_22 : decode cX2_copyQuarter 22 = .ok (.aload_n 1, 1) := by decide +kernel
theorem dX2_copyQuarter_23 : decode cX2_copyQuarter 23 = .ok (.arraylength, 1) := by decide +kernel
theorem dX2_copyQuarter_24 : decode cX2_copyQuarter 24 = .ok (.if_icmp .ge 23, 3) := by decide +kernel
theorem dX2_copyQuarter_27 : decode cX2_copyQuarter 27 = .ok (.aload_n 1, 1) := by decide +kernel
theorem dX2_copyQuarter_28 : decode cX2_copyQuarter 28 = .ok (.iload_n 2, 1) := by decide +kernel
theorem dX2_copyQuarter_29 : decode cX2_copyQuarter 29 = .ok (.bipush 70, 2) := by decide +kernel
theorem dX2_copyQuarter_31 : decode cX2_copyQuarter 31 = .ok (.imul, 1) := by decide +kernel
theorem dX2_copyQuarter_32 : decode cX2_copyQuarter 32 = .ok (.iload_n 3, 1) := by decide +kernel
theorem dX2_copyQuarter_33 : decode cX2_copyQuarter 33 = .ok (.iadd, 1) := by decide +kernel
theorem dX2_copyQuarter_34 : decode cX2_copyQuarter 34 = .ok (.aload_n 0, 1) := by decide +kernel
theorem dX2_copyQuarter_35 : decode cX2_copyQuarter 35 = .ok (.iload_n 2, 1) := by decide +kernel
theorem dX2_copyQuarter_36 : decode cX2_copyQuarter 36 = .ok (.iload_n 3, 1) := by decide +kernel
theorem dX2_copyQuarter_37 : decode cX2_copyQuarter 37 = .ok (.invokevirtual 132, 3) := by decide +kernel
theorem dX2_copyQuarter_40 : decode cX2_copyQuarter 40 = .ok (.lastore, 1) := by decide +kernel
theorem dX2_copyQuarter_41 : decode cX2_copyQuarter 41 = .ok (.iinc 3 1, 3) := by decide +kernel
theorem dX2_copyQuarter_44 : decode cX2_copyQuarter 44 = .ok (.goto (-34), 3) := by decide +kernel
theorem dX2_copyQuarter_47 : decode cX2_copyQuarter 47 = .ok (.iinc 2 1, 3) := by decide +kernel
theorem dX2_copyQuarter_50 : decode cX2_copyQuarter 50 = .ok (.goto (-48), 3) := by decide +kernel
theorem dX2_copyQuarter_53 : decode cX2_copyQuarter 53 = .ok (.return_, 1) := by decide +kernel
theorem dX2_matched_0 : decode cX2_matched 0 = .ok (.lconst 0, 1) := by decide +kernel
theorem dX2_matched_1 : decode cX2_matched 1 = .ok (.lstore_n 2, 1) := by decide +kernel
theorem dX2_matched_2 : decode cX2_matched 2 = .ok (.iconst 0, 1) := by decide +kernel
theorem dX2_matched_3 : decode cX2_matched 3 = .ok (.istore 4, 2) := by decide +kernel
theorem dX2_matched_5 : decode cX2_matched 5 = .ok (.iload 4, 2) := by decide +kernel
theorem dX2_matched_7 : decode cX2_matched 7 = .ok (.bipush 70, 2) := by decide +kernel
theorem dX2_matched_9 : decode cX2_matched 9 = .ok (.if_icmp .ge 63, 3) := by decide +kernel
theorem dX2_matched_12 : decode cX2_matched 12 = .ok (.iconst 0, 1) := by decide +kernel
theorem dX2_matched_13 : decode cX2_matched 13 = .ok (.istore 5, 2) := by decide +kernel
theorem dX2_matched_15 : decode cX2_matched 15 = .ok (.iload 5, 2) := by decide +kernel
theorem dX2_matched_17 : decode cX2_matched 17 = .ok (.bipush 70, 2) := by decide +kernel
theorem dX2_matched_19 : decode cX2_matched 19 = .ok (.if_icmp .ge 47, 3) := by decide +kernel
theorem dX2_matched_22 : decode cX2_matched 22 = .ok (.iload 4, 2) := by decide +kernel
theorem dX2_matched_24 : decode cX2_matched 24 = .ok (.bipush 70, 2) := by decide +kernel
theorem dX2_matched_26 : decode cX2_matched 26 = .ok (.imul, 1) := by decide +kernel
theorem dX2_matched_27 : decode cX2_matched 27 = .ok (.iload 5, 2) := by decide +kernel
theorem dX2_matched_29 : decode cX2_matched 29 = .ok (.iadd, 1) := by decide +kernel
theorem dX2_matched_30 : decode cX2_matched 30 = .ok (.aload_n 1, 1) := by decide +kernel
theorem dX2_matched_31 : decode cX2_matched 31 = .ok (.arraylength, 1) := by decide +kernel
theorem dX2_matched_32 : decode cX2_matched 32 = .ok (.if_icmp .ge 34, 3) := by decide +kernel
theorem dX2_matched_35 : decode cX2_matched 35 = .ok (.lload_n 2, 1) := by decide +kernel
theorem dX2_matched_36 : decode cX2_matched 36 = .ok (.aload_n 1, 1) := by decide +kernel
theorem dX2_matched_37 : decode cX2_matched 37 = .ok (.iload 4, 2) := by decide +kernel
theorem dX2_matched_39 : decode cX2_matched 39 = .ok (.bipush 70, 2) := by decide +kernel
theorem dX2_matched_41 : decode cX2_matched 41 = .ok (.imul, 1) := by decide +kernel
theorem dX2_matched_42 : decode cX2_matched 42 = .ok (.iload 5, 2) := by decide +kernel
theorem dX2_matched_44 : decode cX2_matched 44 = .ok (.iadd, 1) := by decide +kernel
theorem dX2_matched_45 : decode cX2_matched 45 = .ok (.laload, 1) := by decide +kernel
theorem dX2_matched_46 : decode cX2_matched 46 = .ok (.aload_n 0, 1) := by decide +kernel
theorem dX2_matched_47 : decode cX2_matched 47 = .ok (.iload 4, 2) := by decide +kernel
theorem dX2_matched_49 : decode cX2_matched 49 = .ok (.iload 5, 2) := by decide +kernel
theorem dX2_matched_51 : decode cX2_matched 51 = .ok (.invokevirtual 132, 3) := by decide +kernel
theorem dX2_matched_54 : decode cX2_matched 54 = .ok (.invokestatic 147, 3) := by decide +kernel
theorem dX2_matched_57 : decode cX2_matched 57 = .ok (.i2l, 1) := by decide +kernel
theorem dX2_matched_58 : decode cX2_matched 58 = .ok (.ladd, 1) := by decide +kernel
theorem dX2_matched_59 : decode cX2_matched 59 = .ok (.lstore_n 2, 1) := by decide +kernel
theorem dX2_matched_60 : decode cX2_matched 60 = .ok (.iinc 5 1, 3) := by decide +kernel
theorem dX2_matched_63 : decode cX2_matched 63 = .ok (.goto (-48), 3) := by decide +kernel
theorem dX2_matched_66 : decode cX2_matched 66 = .ok (.iinc 4 1, 3) := by decide +kernel
theorem dX2_matched_69 : decode cX2_matched 69 = .ok (.goto (-64), 3) := by decide +kernel
theorem dX2_matched_72 : decode cX2_matched 72 = .ok (.lload_n 2, 1) := by decide +kernel
theorem dX2_matched_73 : decode cX2_matched 73 = .ok (.invokestatic 125, 3) := by decide +kernel
theorem dX2_matched_76 : decode cX2_matched 76 = .ok (.ireturn, 1) := by decide +kernel
abbrev rm_s_X1_holdsk : Room := { frames := 0, cells := 0, slots := 0, locals := 0 }
set_option maxRecDepth 100000 in
set_option maxHeartbeats 4000000 in
theorem s_X1_holdsk (l : Launch) (D : va_G) (G : Nat → Nat) (b0 : Nat) (τ : Nat → Nat) (f : hM) (t : TI G 9 τ f) (u0 : Nat) (hu0 : τ u0 = 23) (u1 : Int32) (hu1 : iv u1 (-2147483648) 2147483647) (u2 : Int32) (hu2 : iv u2 (-2147483648) 2147483647) (bl : Int32) (hbl : iv bl (-60) 69) (k_u0_0 : atp f u0 (fd 0 (.int bl))) (bb : Int32) (hbb : iv bb (-60) 69) (k_u0_1 : atp f u0 (fd 1 (.int bb))) (br : Int32) (hbr : iv br (-60) 69) (k_u0_2 : atp f u0 (fd 2 (.int br))) (bt : Int32) (hbt : iv bt (-60) 69) (k_u0_3 : atp f u0 (fd 3 (.int bt))) : mI l yX1_holds cX1_holds 3 (.boolean) rm_s_X1_holdsk D G b0 f [.ref u0, .int u1, .int u2] (fun r f1 => iv r 0 1 ∧ TI G 9 τ f1 ∧ Fr [] τ f f1 ∧ (r.toInt ≠ 0 → bl.toInt ≤ u1.toInt ∧ u1.toInt ≤ br.toInt ∧ bb.toInt ≤ u2.toInt ∧ u2.toInt ≤ bt.toInt) ∧ (r.toInt = 0 → u1.toInt < bl.toInt ∨ br.toInt < u1.toInt ∨ u2.toInt < bb.toInt ∨ bt.toInt < u2.toInt)) := by
  refine met2 (own := RX1) (by decide) rfl (Nat.le_of_ble_eq_true rfl) ?_
  intro p e s m args below meth c ls Q hQ C hr hini hl h
  have hl : lv_has ls 3 [(0, .ref u0), (1, .int u1), (2, .int u2)] := hl
  obtain ⟨hx, hb, hml, hown, hts, hE0, hlk⟩ := id C
  have o := Fr.rf [] τ f
  refine lv_iload_n hx hb dX1_holds_0 rfl (lv_at hl 1 rfl) ?_
  refine lv_aload_n hx hb dX1_holds_1 rfl (lv_at hl 0 rfl) ?_
  refine t_getfd C h t hu0 (by decide) wf_23 (v := .int bl) k_u0_0 fl_X1_7 dX1_holds_2 ?_
  refine lv_icmp_lt (tgt := 36) hx hb dX1_holds_5 (by decide) (fun c1 => ?_) (fun c1 => ?_)
  · have c2 : u1.toInt < bl.toInt := Int32.lt_iff_toInt_lt.mp c1
    have i3 : iv u1 (-2147483648) 68 := iv_Ll c2 hu1 hbl (by decide)
    refine lv_iconst (v := 0) hx hb dX1_holds_36 (by decide) ?_
    exact u_zret C h hr hQ ⟨by decide, by decide⟩ (⟨⟨by decide, by decide⟩, t, o, (fun h_ => absurd h_ (by decide)), (fun _ => (by omega))⟩) (Nat.le_of_ble_eq_true rfl) (Nat.le_of_ble_eq_true rfl) dX1_holds_37
  · have c4 : bl.toInt ≤ u1.toInt := Int32.le_iff_toInt_le.mp (iv_nlt c1)
    have i5 : iv u1 (-60) 2147483647 := iv_Er c4 hbl hu1 (by decide)
    refine lv_iload_n hx hb dX1_holds_8 rfl (lv_at hl 1 rfl) ?_
    refine lv_aload_n hx hb dX1_holds_9 rfl (lv_at hl 0 rfl) ?_
    refine t_getfd C h t hu0 (by decide) wf_23 (v := .int br) k_u0_2 fl_X1_13 dX1_holds_10 ?_
    refine lv_icmp_gt (tgt := 36) hx hb dX1_holds_13 (by decide) (fun c6 => ?_) (fun c6 => ?_)
    · have c7 : br.toInt < u1.toInt := Int32.lt_iff_toInt_lt.mp c6
      have i8 : iv u1 (-59) 2147483647 := iv_Lr c7 hbr i5 (by decide)
      refine lv_iconst (v := 0) hx hb dX1_holds_36 (by decide) ?_
      exact u_zret C h hr hQ ⟨by decide, by decide⟩ (⟨⟨by decide, by decide⟩, t, o, (fun h_ => absurd h_ (by decide)), (fun _ => (by omega))⟩) (Nat.le_of_ble_eq_true rfl) (Nat.le_of_ble_eq_true rfl) dX1_holds_37
    · have c9 : u1.toInt ≤ br.toInt := Int32.le_iff_toInt_le.mp (iv_nlt c6)
      have i10 : iv u1 (-60) 69 := iv_El c9 i5 hbr (by decide)
      refine lv_iload_n hx hb dX1_holds_16 rfl (lv_at hl 2 rfl) ?_
      refine lv_aload_n hx hb dX1_holds_17 rfl (lv_at hl 0 rfl) ?_
      refine t_getfd C h t hu0 (by decide) wf_23 (v := .int bb) k_u0_1 fl_X1_16 dX1_holds_18 ?_
      refine lv_icmp_lt (tgt := 36) hx hb dX1_holds_21 (by decide) (fun c11 => ?_) (fun c11 => ?_)
      · have c12 : u2.toInt < bb.toInt := Int32.lt_iff_toInt_lt.mp c11
        have i13 : iv u2 (-2147483648) 68 := iv_Ll c12 hu2 hbb (by decide)
        refine lv_iconst (v := 0) hx hb dX1_holds_36 (by decide) ?_
        exact u_zret C h hr hQ ⟨by decide, by decide⟩ (⟨⟨by decide, by decide⟩, t, o, (fun h_ => absurd h_ (by decide)), (fun _ => (by omega))⟩) (Nat.le_of_ble_eq_true rfl) (Nat.le_of_ble_eq_true rfl) dX1_holds_37
      · have c14 : bb.toInt ≤ u2.toInt := Int32.le_iff_toInt_le.mp (iv_nlt c11)
        have i15 : iv u2 (-60) 2147483647 := iv_Er c14 hbb hu2 (by decide)
        refine lv_iload_n hx hb dX1_holds_24 rfl (lv_at hl 2 rfl) ?_
        refine lv_aload_n hx hb dX1_holds_25 rfl (lv_at hl 0 rfl) ?_
        refine t_getfd C h t hu0 (by decide) wf_23 (v := .int bt) k_u0_3 fl_X1_19 dX1_holds_26 ?_
        refine lv_icmp_gt (tgt := 36) hx hb dX1_holds_29 (by decide) (fun c16 => ?_) (fun c16 => ?_)
        · have c17 : bt.toInt < u2.toInt := Int32.lt_iff_toInt_lt.mp c16
          have i18 : iv u2 (-59) 2147483647 := iv_Lr c17 hbt i15 (by decide)
          refine lv_iconst (v := 0) hx hb dX1_holds_36 (by decide) ?_
          exact u_zret C h hr hQ ⟨by decide, by decide⟩ (⟨⟨by decide, by decide⟩, t, o, (fun h_ => absurd h_ (by decide)), (fun _ => (by omega))⟩) (Nat.le_of_ble_eq_true rfl) (Nat.le_of_ble_eq_true rfl) dX1_holds_37
        · have c19 : u2.toInt ≤ bt.toInt := Int32.le_iff_toInt_le.mp (iv_nlt c16)
          have i20 : iv u2 (-60) 69 := iv_El c19 i15 hbt (by decide)
          refine lv_iconst (v := 1) hx hb dX1_holds_32 (by decide) ?_
          refine lv_goto (tgt := 37) hx hb dX1_holds_33 (by decide) ?_
          exact u_zret C h hr hQ ⟨by decide, by decide⟩ (⟨⟨by decide, by decide⟩, t, o, (fun _ => ⟨(by omega), (by omega), (by omega), (by omega)⟩), (fun h_ => absurd h_ (by decide))⟩) (Nat.le_of_ble_eq_true rfl) (Nat.le_of_ble_eq_true rfl) dX1_holds_37
abbrev rm_s_X2_cell : Room := { frames := 0, cells := 0, slots := 0, locals := 0 }
set_option maxRecDepth 100000 in
set_option maxHeartbeats 4000000 in
theorem s_X2_cell (l : Launch) (D : va_G) (G : Nat → Nat) (b0 : Nat) (τ : Nat → Nat) (f : hM) (t : TI G 9 τ f) (u0 : Nat) (hu0 : τ u0 = 20) (u1 : Int32) (hu1 : iv u1 (-131) 131) (u2 : Int32) (hu2 : iv u2 (-131) 131) (sx : Int32) (hsx : iv sx 0 9) (k_u0_9 : atp f u0 (fd 9 (.int sx))) (sy : Int32) (hsy : iv sy 0 9) (k_u0_10 : atp f u0 (fd 10 (.int sy))) : mI l yX2_cell cX2_cell 3 (.int) rm_s_X2_cell D G b0 f [.ref u0, .int u1, .int u2] (fun r f1 => iv r (-9796) 23808 ∧ TI G 9 τ f1 ∧ Fr [] τ f f1 ∧ (r.toInt = (u1.toInt - sx.toInt + 61) * 123 + (u2.toInt - sy.toInt) + 61)) := by
  refine met2 (own := RX2) (by decide) rfl (Nat.le_of_ble_eq_true rfl) ?_
  intro p e s m args below meth c ls Q hQ C hr hini hl h
  have hl : lv_has ls 3 [(0, .ref u0), (1, .int u1), (2, .int u2)] := hl
  obtain ⟨hx, hb, hml, hown, hts, hE0, hlk⟩ := id C
  have o := Fr.rf [] τ f
  refine lv_iload_n hx hb dX2_cell_0 rfl (lv_at hl 1 rfl) ?_
  refine lv_aload_n hx hb dX2_cell_1 rfl (lv_at hl 0 rfl) ?_
  refine t_getfd C h t hu0 (by decide) wf_20 (v := .int sx) k_u0_9 fl_X2_55 dX2_cell_2 ?_
  refine i_sub hx hb dX2_cell_5 hu1 hsx (lo := (-140)) (hi := 131) (by decide) (fun z1 ez1 mz1 iz1 => ?_)
  refine lv_bipush (v := 61) hx hb dX2_cell_6 (by decide) ?_
  refine i_addk hx hb dX2_cell_8 iz1 (k := 61) rfl (lo := (-79)) (hi := 192) (by decide) (fun z2 ez2 mz2 iz2 => ?_)
  refine lv_bipush (v := 123) hx hb dX2_cell_9 (by decide) ?_
  refine i_mulc hx hb dX2_cell_11 iz2 (k := 123) rfl (lo := (-9717)) (hi := 23616) (by decide) (fun z3 ez3 mz3 iz3 => ?_)
  refine lv_iload_n hx hb dX2_cell_12 rfl (lv_at hl 2 rfl) ?_
  refine i_add hx hb dX2_cell_13 iz3 hu2 (lo := (-9848)) (hi := 23747) (by decide) (fun z4 ez4 mz4 iz4 => ?_)
  refine lv_aload_n hx hb dX2_cell_14 rfl (lv_at hl 0 rfl) ?_
  refine t_getfd C h t hu0 (by decide) wf_20 (v := .int sy) k_u0_10 fl_X2_59 dX2_cell_15 ?_
  refine i_sub hx hb dX2_cell_18 iz4 hsy (lo := (-9857)) (hi := 23747) (by decide) (fun z5 ez5 mz5 iz5 => ?_)
  refine lv_bipush (v := 61) hx hb dX2_cell_19 (by decide) ?_
  refine i_addk hx hb dX2_cell_21 iz5 (k := 61) rfl (lo := (-9796)) (hi := 23808) (by decide) (fun z6 ez6 mz6 iz6 => ?_)
  exact u_iret C h hr hQ (⟨iz6, t, o, (by omega)⟩) (Nat.le_of_ble_eq_true rfl) (Nat.le_of_ble_eq_true rfl) dX2_cell_22
abbrev rm_s_X2_wipe : Room := { frames := 1, cells := 0, slots := 0, locals := 22 }
set_option maxRecDepth 100000 in
set_option maxHeartbeats 4000000 in
theorem s_X2_wipe (l : Launch) (D : va_G) (G : Nat → Nat) (b0 : Nat) (τ : Nat → Nat) (f : hM) (t : TI G 9 τ f) (u0 : Nat) (hu0 : τ u0 = 20) (nq : Nat) (hnq : τ nq = 21) (k_u0_0 : atp f u0 (fd 0 (.ref nq))) (xq : Nat) (hxq : τ xq = 21) (k_u0_1 : atp f u0 (fd 1 (.ref xq))) (rq : Nat) (hrq : τ rq = 23) (k_u0_3 : atp f u0 (fd 3 (.ref rq))) (rl : Int32) (hrl : iv rl (-60) 69) (k_rq_0 : atp f rq (fd 0 (.int rl))) (rb : Int32) (hrb : iv rb (-60) 69) (k_rq_1 : atp f rq (fd 1 (.int rb))) (rr : Int32) (hrr : iv rr (-60) 69) (k_rq_2 : atp f rq (fd 2 (.int rr))) (rt : Int32) (hrt : iv rt (-60) 69) (k_rq_3 : atp f rq (fd 3 (.int rt))) (sx : Int32) (hsx : iv sx 0 9) (k_u0_9 : atp f u0 (fd 9 (.int sx))) (sy : Int32) (hsy : iv sy 0 9) (k_u0_10 : atp f u0 (fd 10 (.int sy))) (rn : Nat → Int64) (hRnq : atp f nq (lrw G 15129 rn)) (rx : Nat → Int64) (hRxq : atp f xq (lrw G 15129 rx)) (hnx : nq ≠ xq) (hzn : ∀ k : Nat, k < 15129 → ¬ inb sx sy rl rb rr rt k → rn k = 0) (hzx : ∀ k : Nat, k < 15129 → ¬ inb sx sy rl rb rr rt k → rx k = 0)  (hr0 : sx.toInt - 60 ≤ rl.toInt) (hr1 : rr.toInt ≤ sx.toInt + 60) (hr2 : sy.toInt - 60 ≤ rb.toInt) (hr3 : rt.toInt ≤ sy.toInt + 60) : mV l yX2_wipe cX2_wipe 4 rm_s_X2_wipe D G b0 f [.ref u0] (fun f1 => TI G 9 τ f1 ∧ Fr [21] τ f f1 ∧ (∃ rn1 : Nat → Int64, atp f1 nq (lrw G 15129 rn1) ∧ (∀ k : Nat, k < 15129 → rn1 k = 0)) ∧ (∃ rx1 : Nat → Int64, atp f1 xq (lrw G 15129 rx1) ∧ (∀ k : Nat, k < 15129 → rx1 k = 0))) := by
  refine met2 (own := RX2) (by decide) rfl (Nat.le_of_ble_eq_true rfl) ?_
  intro p e s m args below meth c ls Q hQ C hr hini hl h
  have hl : lv_has ls 4 [(0, .ref u0)] := hl
  obtain ⟨hx, hb, hml, hown, hts, hE0, hlk⟩ := id C
  have o := Fr.rf [21] τ f
  have L8 : ∀ (n8 : Nat) (ls : Array Slot) (f_8 : hM) (H : Heap) (locs : List Loc) (v8_1 : Int32) (g8_nq_R : Nat → Int64) (g8_xq_R : Nat → Int64), 70 - v8_1.toInt < (n8 : Int) → lv_has ls 4 [(0, .ref u0), (1, .int v8_1)] → hw D b0 s.heap f_8 H locs → TI G 9 τ f_8 → Fr [21] τ f f_8 → iv v8_1 (-60) 70 → atp f_8 u0 (fd 0 (.ref nq)) → atp f_8 u0 (fd 1 (.ref xq)) → atp f_8 u0 (fd 3 (.ref rq)) → atp f_8 rq (fd 0 (.int rl)) → atp f_8 rq (fd 1 (.int rb)) → atp f_8 rq (fd 2 (.int rr)) → atp f_8 rq (fd 3 (.int rt)) → atp f_8 u0 (fd 9 (.int sx)) → atp f_8 u0 (fd 10 (.int sy)) → atp f_8 nq (lrw G 15129 g8_nq_R) → atp f_8 xq (lrw G 15129 g8_xq_R) → rl.toInt ≤ v8_1.toInt → (∀ k : Nat, k < 15129 → ¬ (inb sx sy rl rb rr rt k ∧ v8_1.toInt ≤ (k : Int) / 123 + sx.toInt - 61) → g8_nq_R k = 0) → (∀ k : Nat, k < 15129 → ¬ (inb sx sy rl rb rr rt k ∧ v8_1.toInt ≤ (k : Int) / 123 + sx.toInt - 61) → g8_xq_R k = 0) → W p l e rm_s_X2_wipe s m args below meth c H locs 0 0 Q (F0 m 8 ls []) := by
    intro n8
    induction n8 with
    | zero => intro ls f_8 H locs v8_1 g8_nq_R g8_xq_R hm8 hl h t_8 o_8 iv8_1 k8_u0_0 k8_u0_1 k8_u0_3 k8_rq_0 k8_rq_1 k8_rq_2 k8_rq_3 k8_u0_9 k8_u0_10 k8_nq_R k8_xq_R hv8_0 hv8_1 hv8_2; exact absurd hm8 (by omega)
    | succ n8 ih8 =>
      intro ls f_8 H locs v8_1 g8_nq_R g8_xq_R hm8 hl h t_8 o_8 iv8_1 k8_u0_0 k8_u0_1 k8_u0_3 k8_rq_0 k8_rq_1 k8_rq_2 k8_rq_3 k8_u0_9 k8_u0_10 k8_nq_R k8_xq_R hv8_0 hv8_1 hv8_2
      have L45 : ∀ (n45 : Nat) (ls : Array Slot) (f_45 : hM) (H : Heap) (locs : List Loc) (v45_2 : Int32) (v45_3 : Int32) (g45_nq_R : Nat → Int64) (g45_xq_R : Nat → Int64), 15020 - v45_3.toInt < (n45 : Int) → lv_has ls 4 [(0, .ref u0), (1, .int v8_1), (2, .int v45_2), (3, .int v45_3)] → hw D b0 s.heap f_45 H locs → TI G 9 τ f_45 → Fr [21] τ f f_45 → iv v8_1 (-60) 69 → iv v45_2 (-20000) 15004 → iv v45_3 124 15020 → atp f_45 u0 (fd 0 (.ref nq)) → atp f_45 u0 (fd 1 (.ref xq)) → atp f_45 u0 (fd 3 (.ref rq)) → atp f_45 rq (fd 0 (.int rl)) → atp f_45 rq (fd 1 (.int rb)) → atp f_45 rq (fd 2 (.int rr)) → atp f_45 rq (fd 3 (.int rt)) → atp f_45 u0 (fd 9 (.int sx)) → atp f_45 u0 (fd 10 (.int sy)) → atp f_45 nq (lrw G 15129 g45_nq_R) → atp f_45 xq (lrw G 15129 g45_xq_R) → (∀ k : Nat, k < 15129 → ¬ (inb sx sy rl rb rr rt k ∧ (v8_1.toInt < (k : Int) / 123 + sx.toInt - 61 ∨ ((k : Int) / 123 + sx.toInt - 61 = v8_1.toInt ∧ v45_3.toInt ≤ k))) → g45_nq_R k = 0) → (∀ k : Nat, k < 15129 → ¬ (inb sx sy rl rb rr rt k ∧ (v8_1.toInt < (k : Int) / 123 + sx.toInt - 61 ∨ ((k : Int) / 123 + sx.toInt - 61 = v8_1.toInt ∧ v45_3.toInt ≤ k))) → g45_xq_R k = 0) → v45_2.toInt = (v8_1.toInt - sx.toInt + 61) * 123 + (rt.toInt - sy.toInt) + 61 → W p l e rm_s_X2_wipe s m args below meth c H locs 0 0 Q (F0 m 45 ls []) := by
        intro n45
        induction n45 with
        | zero => intro ls f_45 H locs v45_2 v45_3 g45_nq_R g45_xq_R hm45 hl h t_45 o_45 jv45_1 iv45_2 iv45_3 k45_u0_0 k45_u0_1 k45_u0_3 k45_rq_0 k45_rq_1 k45_rq_2 k45_rq_3 k45_u0_9 k45_u0_10 k45_nq_R k45_xq_R hv45_0 hv45_1 hv45_2; exact absurd hm45 (by omega)
        | succ n45 ih45 =>
          intro ls f_45 H locs v45_2 v45_3 g45_nq_R g45_xq_R hm45 hl h t_45 o_45 jv45_1 iv45_2 iv45_3 k45_u0_0 k45_u0_1 k45_u0_3 k45_rq_0 k45_rq_1 k45_rq_2 k45_rq_3 k45_u0_9 k45_u0_10 k45_nq_R k45_xq_R hv45_0 hv45_1 hv45_2
          refine lv_iload_n hx hb dX2_wipe_45 rfl (lv_at hl 3 rfl) ?_
          refine lv_iload_n hx hb dX2_wipe_46 rfl (lv_at hl 2 rfl) ?_
          refine lv_icmp_gt (tgt := 70) hx hb dX2_wipe_47 (by decide) (fun c1 => ?_) (fun c1 => ?_)
          · have c2 : v45_2.toInt < v45_3.toInt := Int32.lt_iff_toInt_lt.mp c1
            refine i_inc hx hb dX2_wipe_70 hl (k := 1) rfl jv45_1 rfl (lo := (-59)) (hi := 70) (by decide) (by decide) (lv' := fun v => [(1, .int v), (0, .ref u0), (2, .int v45_2), (3, .int v45_3)]) (fun _ => rfl) (fun z6 ls ez6 mz6 iz6 hl => ?_)
            refine lv_goto (tgt := 8) hx hb dX2_wipe_73 (by decide) ?_
            exact ih8 ls f_45 H locs z6 g45_nq_R g45_xq_R (show 70 - z6.toInt < _ by omega) (lv_cons hl 1 rfl (lv_cons hl 0 rfl (lv_nil hl))) h t_45 o_45 (iv_w iz6 (by decide)) k45_u0_0 k45_u0_1 k45_u0_3 k45_rq_0 k45_rq_1 k45_rq_2 k45_rq_3 k45_u0_9 k45_u0_10 k45_nq_R k45_xq_R (show rl.toInt ≤ z6.toInt by omega) (show ∀ k : Nat, k < 15129 → ¬ (inb sx sy rl rb rr rt k ∧ z6.toInt ≤ (k : Int) / 123 + sx.toInt - 61) → g45_nq_R k = 0 from (fun k hk q => hv45_0 k hk (fun z => q (by omega)))) (show ∀ k : Nat, k < 15129 → ¬ (inb sx sy rl rb rr rt k ∧ z6.toInt ≤ (k : Int) / 123 + sx.toInt - 61) → g45_xq_R k = 0 from (fun k hk q => hv45_1 k hk (fun z => q (by omega))))
          · have c3 : v45_3.toInt ≤ v45_2.toInt := Int32.le_iff_toInt_le.mp (iv_nlt c1)
            have i4 : iv v45_3 124 15004 := iv_El c3 iv45_3 iv45_2 (by decide)
            have i5 : iv v45_2 124 15004 := iv_Er c3 iv45_3 iv45_2 (by decide)
            refine lv_aload_n hx hb dX2_wipe_50 rfl (lv_at hl 0 rfl) ?_
            refine t_getfd C h t_45 hu0 (by decide) wf_20 (v := .ref nq) k45_u0_0 fl_X2_11 dX2_wipe_51 ?_
            refine lv_iload_n hx hb dX2_wipe_54 rfl (lv_at hl 3 rfl) ?_
            refine lv_lconst (v := 0) hx hb dX2_wipe_55 (by decide) ?_
            refine e_last C h t_45 o_45 hnq (by decide) (by decide) wf_21 fw_21 k45_nq_R (x := 0) (iv_in i4 (by decide)) dX2_wipe_56 (fun R9 f7 erR9 H locs h tf7 of7 hq hn_ k8 => ?_)
            have k10 := atp.tg k45_u0_0 hq hu0 (by decide)
            have k11 := atp.tg k45_u0_1 hq hu0 (by decide)
            have k12 := atp.tg k45_u0_3 hq hu0 (by decide)
            have k13 := atp.tg k45_rq_0 hq hrq (by decide)
            have k14 := atp.tg k45_rq_1 hq hrq (by decide)
            have k15 := atp.tg k45_rq_2 hq hrq (by decide)
            have k16 := atp.tg k45_rq_3 hq hrq (by decide)
            have k17 := atp.tg k45_u0_9 hq hu0 (by decide)
            have k18 := atp.tg k45_u0_10 hq hu0 (by decide)
            have k20 := atp.tr k45_xq_R (hn_ xq hnx.symm)
            refine lv_aload_n hx hb dX2_wipe_57 rfl (lv_at hl 0 rfl) ?_
            refine t_getfd C h tf7 hu0 (by decide) wf_20 (v := .ref xq) k11 fl_X2_15 dX2_wipe_58 ?_
            refine lv_iload_n hx hb dX2_wipe_61 rfl (lv_at hl 3 rfl) ?_
            refine lv_lconst (v := 0) hx hb dX2_wipe_62 (by decide) ?_
            refine e_last C h tf7 of7 hxq (by decide) (by decide) wf_21 fw_21 k20 (x := 0) (iv_in i4 (by decide)) dX2_wipe_63 (fun R23 f21 erR23 H locs h tf21 of21 hq hn_ k22 => ?_)
            have k24 := atp.tg k10 hq hu0 (by decide)
            have k25 := atp.tg k11 hq hu0 (by decide)
            have k26 := atp.tg k12 hq hu0 (by decide)
            have k27 := atp.tg k13 hq hrq (by decide)
            have k28 := atp.tg k14 hq hrq (by decide)
            have k29 := atp.tg k15 hq hrq (by decide)
            have k30 := atp.tg k16 hq hrq (by decide)
            have k31 := atp.tg k17 hq hu0 (by decide)
            have k32 := atp.tg k18 hq hu0 (by decide)
            have k34 := atp.tr k8 (hn_ nq hnx)
            refine i_inc hx hb dX2_wipe_64 hl (k := 3) rfl i4 rfl (lo := 125) (hi := 15005) (by decide) (by decide) (lv' := fun v => [(3, .int v), (0, .ref u0), (1, .int v8_1), (2, .int v45_2)]) (fun _ => rfl) (fun z35 ls ez35 mz35 iz35 hl => ?_)
            refine lv_goto (tgt := 45) hx hb dX2_wipe_67 (by decide) ?_
            exact ih45 ls f21 H locs v45_2 z35 R9 R23 (show 15020 - z35.toInt < _ by omega) (lv_cons hl 1 rfl (lv_cons hl 2 rfl (lv_cons hl 3 rfl (lv_cons hl 0 rfl (lv_nil hl))))) h tf21 of21 jv45_1 (iv_w i5 (by decide)) (iv_w iz35 (by decide)) k24 k25 k26 k27 k28 k29 k30 k31 k32 k34 k22 (show ∀ k : Nat, k < 15129 → ¬ (inb sx sy rl rb rr rt k ∧ (v8_1.toInt < (k : Int) / 123 + sx.toInt - 61 ∨ ((k : Int) / 123 + sx.toInt - 61 = v8_1.toInt ∧ z35.toInt ≤ k))) → R9 k = 0 from (fun k hk q => by
                rw [erR9]; by_cases q_ : k = v45_3.toInt.toNat
                · rw [updL_at q_]
                · rw [updL_off q_]; exact hv45_0 k hk (fun z => q (by omega)))) (show ∀ k : Nat, k < 15129 → ¬ (inb sx sy rl rb rr rt k ∧ (v8_1.toInt < (k : Int) / 123 + sx.toInt - 61 ∨ ((k : Int) / 123 + sx.toInt - 61 = v8_1.toInt ∧ z35.toInt ≤ k))) → R23 k = 0 from (fun k hk q => by
                rw [erR23]; by_cases q_ : k = v45_3.toInt.toNat
                · rw [updL_at q_]
                · rw [updL_off q_]; exact hv45_1 k hk (fun z => q (by omega)))) (show v45_2.toInt = (v8_1.toInt - sx.toInt + 61) * 123 + (rt.toInt - sy.toInt) + 61 by omega)
      refine lv_iload_n hx hb dX2_wipe_8 rfl (lv_at hl 1 rfl) ?_
      refine lv_aload_n hx hb dX2_wipe_9 rfl (lv_at hl 0 rfl) ?_
      refine t_getfd C h t_8 hu0 (by decide) wf_20 (v := .ref rq) k8_u0_3 fl_X2_25 dX2_wipe_10 ?_
      refine t_getfd C h t_8 hrq (by decide) wf_23 (v := .int rr) k8_rq_2 fl_X2_66 dX2_wipe_13 ?_
      refine lv_icmp_gt (tgt := 76) hx hb dX2_wipe_16 (by decide) (fun c36 => ?_) (fun c36 => ?_)
      · have c37 : rr.toInt < v8_1.toInt := Int32.lt_iff_toInt_lt.mp c36
        have i38 : iv v8_1 (-59) 70 := iv_Lr c37 hrr iv8_1 (by decide)
        exact u_vret C h hr hQ (⟨t_8, o_8, ⟨g8_nq_R, k8_nq_R, (fun k hk => hv8_1 k hk (fun z => by omega))⟩, ⟨g8_xq_R, k8_xq_R, (fun k hk => hv8_2 k hk (fun z => by omega))⟩⟩) (Nat.le_of_ble_eq_true rfl) (Nat.le_of_ble_eq_true rfl) dX2_wipe_76
      · have c39 : v8_1.toInt ≤ rr.toInt := Int32.le_iff_toInt_le.mp (iv_nlt c36)
        have i40 : iv v8_1 (-60) 69 := iv_El c39 iv8_1 hrr (by decide)
        refine lv_aload_n hx hb dX2_wipe_19 rfl (lv_at hl 0 rfl) ?_
        refine lv_iload_n hx hb dX2_wipe_20 rfl (lv_at hl 1 rfl) ?_
        refine lv_aload_n hx hb dX2_wipe_21 rfl (lv_at hl 0 rfl) ?_
        refine t_getfd C h t_8 hu0 (by decide) wf_20 (v := .ref rq) k8_u0_3 fl_X2_25 dX2_wipe_22 ?_
        refine t_getfd C h t_8 hrq (by decide) wf_23 (v := .int rt) k8_rq_3 fl_X2_69 dX2_wipe_25 ?_
        obtain ⟨_, r41⟩ := t_rec t_8 hu0 (by decide) wf_20
        refine k_i (r_V C h hl (As := [.int v8_1, .int rt]) (rest := []) (s_X2_cell l D G b0 τ f_8 t_8 u0 hu0 v8_1 (iv_w i40 (by decide)) rt (iv_w hrt (by decide)) sx hsx k8_u0_9 sy hsy k8_u0_10) r41 (Cn := RX2) (T := TX2) (N := 11) rfl rfl mk_X2_cell w_671 w_673 w_12 w_674 ⟨Nat.le_of_ble_eq_true rfl, Nat.le_of_ble_eq_true rfl⟩ rfl (Nat.le_of_ble_eq_true rfl) ⟨Nat.le_of_ble_eq_true rfl, Nat.le_of_ble_eq_true rfl⟩ rfl dX2_wipe_28) h (fun r42 f43 H locs p44 h => ?_)
        obtain ⟨ir42, tf43, ogf43, x0r42⟩ := p44
        have egf43 := Fr.nil2 ogf43
        subst egf43
        refine lv_istore_n (lv' := [(2, .int r42), (0, .ref u0), (1, .int v8_1)]) hx hb dX2_wipe_31 rfl hl (by decide) rfl (fun ls hl => ?_)
        refine lv_aload_n hx hb dX2_wipe_32 rfl (lv_at hl 1 rfl) ?_
        refine lv_iload_n hx hb dX2_wipe_33 rfl (lv_at hl 2 rfl) ?_
        refine lv_aload_n hx hb dX2_wipe_34 rfl (lv_at hl 1 rfl) ?_
        refine t_getfd C h t_8 hu0 (by decide) wf_20 (v := .ref rq) k8_u0_3 fl_X2_25 dX2_wipe_35 ?_
        refine t_getfd C h t_8 hrq (by decide) wf_23 (v := .int rb) k8_rq_1 fl_X2_63 dX2_wipe_38 ?_
        obtain ⟨_, r45⟩ := t_rec t_8 hu0 (by decide) wf_20
        refine k_i (r_V C h hl (As := [.int v8_1, .int rb]) (rest := []) (s_X2_cell l D G b0 τ f_8 t_8 u0 hu0 v8_1 (iv_w i40 (by decide)) rb (iv_w hrb (by decide)) sx hsx k8_u0_9 sy hsy k8_u0_10) r45 (Cn := RX2) (T := TX2) (N := 11) rfl rfl mk_X2_cell w_671 w_673 w_12 w_674 ⟨Nat.le_of_ble_eq_true rfl, Nat.le_of_ble_eq_true rfl⟩ rfl (Nat.le_of_ble_eq_true rfl) ⟨Nat.le_of_ble_eq_true rfl, Nat.le_of_ble_eq_true rfl⟩ rfl dX2_wipe_41) h (fun r46 f47 H locs p48 h => ?_)
        obtain ⟨ir46, tf47, ogf47, x0r46⟩ := p48
        have egf47 := Fr.nil2 ogf47
        subst egf47
        refine lv_istore_n (lv' := [(3, .int r46), (2, .int r42), (0, .ref u0), (1, .int v8_1)]) hx hb dX2_wipe_44 rfl hl (by decide) rfl (fun ls hl => ?_)
        exact L45 15021 ls f_8 H locs r42 r46 g8_nq_R g8_xq_R (show 15020 - r46.toInt < _ by omega) (lv_cons hl 2 rfl (lv_cons hl 3 rfl (lv_cons hl 1 rfl (lv_cons hl 0 rfl (lv_nil hl))))) h t_8 o_8 i40 (show iv r42 (-20000) 15004 from by omega) (show iv r46 124 15020 from by omega) k8_u0_0 k8_u0_1 k8_u0_3 k8_rq_0 k8_rq_1 k8_rq_2 k8_rq_3 k8_u0_9 k8_u0_10 k8_nq_R k8_xq_R (show ∀ k : Nat, k < 15129 → ¬ (inb sx sy rl rb rr rt k ∧ (v8_1.toInt < (k : Int) / 123 + sx.toInt - 61 ∨ ((k : Int) / 123 + sx.toInt - 61 = v8_1.toInt ∧ r46.toInt ≤ k))) → g8_nq_R k = 0 from (fun k hk q => hv8_1 k hk (fun z => q (by omega)))) (show ∀ k : Nat, k < 15129 → ¬ (inb sx sy rl rb rr rt k ∧ (v8_1.toInt < (k : Int) / 123 + sx.toInt - 61 ∨ ((k : Int) / 123 + sx.toInt - 61 = v8_1.toInt ∧ r46.toInt ≤ k))) → g8_xq_R k = 0 from (fun k hk q => hv8_2 k hk (fun z => q (by omega)))) (show r42.toInt = (v8_1.toInt - sx.toInt + 61) * 123 + (rt.toInt - sy.toInt) + 61 by omega)
  refine lv_aload_n hx hb dX2_wipe_0 rfl (lv_at hl 0 rfl) ?_
  refine t_getfd C h t hu0 (by decide) wf_20 (v := .ref rq) k_u0_3 fl_X2_25 dX2_wipe_1 ?_
  refine t_getfd C h t hrq (by decide) wf_23 (v := .int rl) k_rq_0 fl_X2_60 dX2_wipe_4 ?_
  refine lv_istore_n (lv' := [(1, .int rl), (0, .ref u0)]) hx hb dX2_wipe_7 rfl hl (by decide) rfl (fun ls hl => ?_)
  exact L8 131 ls f s.heap [] rl rn rx (show 70 - rl.toInt < _ by omega) (lv_cons hl 1 rfl (lv_cons hl 0 rfl (lv_nil hl))) h t o (iv_w hrl (by decide)) k_u0_0 k_u0_1 k_u0_3 k_rq_0 k_rq_1 k_rq_2 k_rq_3 k_u0_9 k_u0_10 hRnq hRxq (show rl.toInt ≤ rl.toInt by omega) (show ∀ k : Nat, k < 15129 → ¬ (inb sx sy rl rb rr rt k ∧ rl.toInt ≤ (k : Int) / 123 + sx.toInt - 61) → rn k = 0 from (fun k hk q => hzn k hk (fun z => q ⟨z, by omega⟩))) (show ∀ k : Nat, k < 15129 → ¬ (inb sx sy rl rb rr rt k ∧ rl.toInt ≤ (k : Int) / 123 + sx.toInt - 61) → rx k = 0 from (fun k hk q => hzx k hk (fun z => q ⟨z, by omega⟩)))
abbrev rm_s_X6_bitsX : Room := { frames := 0, cells := 0, slots := 0, locals := 0 }
set_option maxRecDepth 100000 in
set_option maxHeartbeats 4000000 in
theorem s_X6_bitsX (l : Launch) (D : va_G) (G : Nat → Nat) (b0 : Nat) (τ : Nat → Nat) (f : hM) (t : TI G 9 τ f) (u0 : Nat) (hu0 : τ u0 = 1) (wq : Nat) (hwq : τ wq = 2) (k_u0_0 : atp f u0 (fd 0 (.ref wq))) (ww : Nat → Int32) (hRwq : atp f wq (eqc (.inl (G 1, 8, .inl ww)))) : mI l yX6_bits cX6_bits 3 (.int) rm_s_X6_bitsX D G b0 f [.ref u0] (fun r f1 => iv r (-2147483648) 2147483647 ∧ TI G 9 τ f1 ∧ Fr [] τ f f1 ∧ (r = bitw ww 8)) := by
  refine met2 (own := RX6) (by decide) rfl (Nat.le_of_ble_eq_true rfl) ?_
  intro p e s m args below meth c ls Q hQ C hr hini hl h
  have hl : lv_has ls 3 [(0, .ref u0)] := hl
  obtain ⟨hx, hb, hml, hown, hts, hE0, hlk⟩ := id C
  have o := Fr.rf [] τ f
  have L4 : ∀ (n4 : Nat) (ls : Array Slot) (f_4 : hM) (H : Heap) (locs : List Loc) (v4_1 : Int32) (v4_2 : Int32), 8 - v4_2.toInt < (n4 : Int) → lv_has ls 3 [(0, .ref u0), (1, .int v4_1), (2, .int v4_2)] → hw D b0 s.heap f_4 H locs → TI G 9 τ f_4 → Fr [] τ f f_4 → iv v4_1 (-2147483648) 2147483647 → iv v4_2 0 8 → atp f_4 u0 (fd 0 (.ref wq)) → atp f_4 wq (eqc (.inl (G 1, 8, .inl ww))) → (v4_1 = bitw ww (Int.toNat v4_2.toInt)) → W p l e rm_s_X6_bitsX s m args below meth c H locs 0 0 Q (F0 m 4 ls []) := by
    intro n4
    induction n4 with
    | zero => intro ls f_4 H locs v4_1 v4_2 hm4 hl h t_4 o_4 iv4_1 iv4_2 k4_u0_0 k4_wq_R hv4_0; exact absurd hm4 (by omega)
    | succ n4 ih4 =>
      intro ls f_4 H locs v4_1 v4_2 hm4 hl h t_4 o_4 iv4_1 iv4_2 k4_u0_0 k4_wq_R hv4_0
      refine lv_iload_n hx hb dX6_bits_4 rfl (lv_at hl 2 rfl) ?_
      refine lv_bipush (v := 8) hx hb dX6_bits_5 (by decide) ?_
      refine lv_icmp_ge (tgt := 31) hx hb dX6_bits_7 (by decide) (fun c1 => ?_) (fun c1 => ?_)
      · have c2 : 8 ≤ v4_2.toInt := Int32.le_iff_toInt_le.mp c1
        have i3 : iv v4_2 8 8 := iv_Er c2 (iv_k (x := 8) (k := 8) rfl) iv4_2 (by decide)
        refine lv_iload_n hx hb dX6_bits_31 rfl (lv_at hl 1 rfl) ?_
        exact u_iret C h hr hQ (⟨iv4_1, t_4, o_4, (by rw [hv4_0, show v4_2.toInt.toNat = 8 by omega])⟩) (Nat.le_of_ble_eq_true rfl) (Nat.le_of_ble_eq_true rfl) dX6_bits_32
      · have c4 : v4_2.toInt < 8 := Int32.lt_iff_toInt_lt.mp (iv_nle c1)
        have i5 : iv v4_2 0 7 := iv_Ll c4 iv4_2 (iv_k (x := 8) (k := 8) rfl) (by decide)
        refine lv_aload_n hx hb dX6_bits_10 rfl (lv_at hl 0 rfl) ?_
        refine t_getfd C h t_4 hu0 (by decide) wf_1 (v := .ref wq) k4_u0_0 fl_X6_15 dX6_bits_11 ?_
        refine lv_iload_n hx hb dX6_bits_14 rfl (lv_at hl 2 rfl) ?_
        refine e_iald C h t_4 hwq (by decide) wf_2 k4_wq_R (iv_in i5 (by decide)) dX6_bits_15 (fun z6 ez6 iz6 => ?_)
        have mz6 := congrArg Int32.toInt ez6
        refine lv_if_eq (tgt := 25) hx hb dX6_bits_16 (by decide) (fun c7 => ?_) (fun c7 => ?_)
        · have c8 : z6.toInt = 0 := congrArg Int32.toInt c7
          have i9 : iv z6 0 0 := iv_Q c8 iz6 (iv_k (x := 0) (k := 0) rfl) (by decide)
          refine i_inc hx hb dX6_bits_25 hl (k := 2) rfl i5 rfl (lo := 1) (hi := 8) (by decide) (by decide) (lv' := fun v => [(2, .int v), (0, .ref u0), (1, .int v4_1)]) (fun _ => rfl) (fun z12 ls ez12 mz12 iz12 hl => ?_)
          refine lv_goto (tgt := 4) hx hb dX6_bits_28 (by decide) ?_
          exact ih4 ls f_4 H locs v4_1 z12 (show 8 - z12.toInt < _ by omega) (lv_cons hl 1 rfl (lv_cons hl 2 rfl (lv_cons hl 0 rfl (lv_nil hl)))) h t_4 o_4 iv4_1 (iv_w iz12 (by decide)) k4_u0_0 k4_wq_R (show v4_1 = bitw ww (Int.toNat z12.toInt) from (by rw [bitw_s (i := v4_2.toInt) (by omega) (by omega), if_pos (by rw [← ez6]; omega)]; exact hv4_0))
        · have c10 : z6.toInt ≠ 0 := fun z_ => c7 (Int32.toInt_inj.mp z_)
          have i11 : iv z6 1 9 := iv_Nl c10 iz6 (by decide)
          refine lv_iload_n hx hb dX6_bits_19 rfl (lv_at hl 1 rfl) ?_
          refine lv_iconst (v := 1) hx hb dX6_bits_20 (by decide) ?_
          refine lv_iload_n hx hb dX6_bits_21 rfl (lv_at hl 2 rfl) ?_
          refine lv_ishl hx hb dX6_bits_22 (i_top (iv_any _) (fun z13 ez13 iz13 => ?_))
          refine lv_ior hx hb dX6_bits_23 (i_top (iv_any _) (fun z14 ez14 iz14 => ?_))
          refine lv_istore_n (lv' := [(1, .int z14), (0, .ref u0), (2, .int v4_2)]) hx hb dX6_bits_24 rfl hl (by decide) rfl (fun ls hl => ?_)
          refine i_inc hx hb dX6_bits_25 hl (k := 2) rfl i5 rfl (lo := 1) (hi := 8) (by decide) (by decide) (lv' := fun v => [(2, .int v), (1, .int z14), (0, .ref u0)]) (fun _ => rfl) (fun z15 ls ez15 mz15 iz15 hl => ?_)
          refine lv_goto (tgt := 4) hx hb dX6_bits_28 (by decide) ?_
          exact ih4 ls f_4 H locs z14 z15 (show 8 - z15.toInt < _ by omega) (lv_cons hl 2 rfl (lv_cons hl 1 rfl (lv_cons hl 0 rfl (lv_nil hl)))) h t_4 o_4 iz14 (iv_w iz15 (by decide)) k4_u0_0 k4_wq_R (show z14 = bitw ww (Int.toNat z15.toInt) from (by rw [bitw_s (i := v4_2.toInt) (by omega) (by omega), if_neg (by rw [← ez6]; omega), ← hv4_0, Int32.ofInt_toInt, ez14, ez13]))
  refine lv_iconst (v := 0) hx hb dX6_bits_0 (by decide) ?_
  refine lv_istore_n (lv' := [(1, .int 0), (0, .ref u0)]) hx hb dX6_bits_1 rfl hl (by decide) rfl (fun ls hl => ?_)
  refine lv_iconst (v := 0) hx hb dX6_bits_2 (by decide) ?_
  refine lv_istore_n (lv' := [(2, .int 0), (1, .int 0), (0, .ref u0)]) hx hb dX6_bits_3 rfl hl (by decide) rfl (fun ls hl => ?_)
  exact L4 9 ls f s.heap [] 0 0 (by decide) (lv_cons hl 2 rfl (lv_cons hl 1 rfl (lv_cons hl 0 rfl (lv_nil hl)))) h t o ⟨by decide, by decide⟩ ⟨by decide, by decide⟩ k_u0_0 hRwq (show 0 = bitw ww (Int.toNat 0) from (by rfl))
abbrev rm_s_X2_takeSteps : Room := { frames := 1, cells := 0, slots := 0, locals := 22 }
set_option maxRecDepth 100000 in
set_option maxHeartbeats 4000000 in
theorem s_X2_takeSteps (l : Launch) (D : va_G) (G : Nat → Nat) (b0 : Nat) (τ : Nat → Nat) (f : hM) (t : TI G 9 τ f) (u0 : Nat) (hu0 : τ u0 = 20) (u1 : Nat) (hu1 : τ u1 = 1) (sq : Nat) (hsq : τ sq = 24) (k_u0_4 : atp f u0 (fd 4 (.ref sq))) (oq : Nat) (hoq : τ oq = 25) (k_u0_5 : atp f u0 (fd 5 (.ref oq))) (mo : Int32) (hmo : iv mo 0 3) (k_u0_8 : atp f u0 (fd 8 (.int mo))) (wq : Nat) (hwq : τ wq = 2) (k_u1_0 : atp f u1 (fd 0 (.ref wq))) (sh : Nat → Int32) (hRsq : atp f sq (eqc (.inl (G 1, 8, .inl sh)))) (wo : Nat → Int64) (hRoq : atp f oq (lrw G 8 wo)) (ww : Nat → Int32) (hRwq : atp f wq (eqc (.inl (G 1, 8, .inl ww)))) : mV l yX2_takeSteps cX2_takeSteps 3 rm_s_X2_takeSteps D G b0 f [.ref u0, .ref u1] (fun f1 => TI G 9 τ f1 ∧ Fr [20, 24, 25, 20007, 20008] τ f f1 ∧ (∃ (us : Int32) (bi : Int32) (sh1 : Nat → Int32) (wo1 : Nat → Int64), (atp f1 u0 (fd 6 (.int us)) ∧ iv us 0 8) ∧ (atp f1 u0 (fd 7 (.int bi)) ∧ iv bi (-2147483648) 2147483647) ∧ atp f1 sq (eqc (.inl (G 1, 8, .inl sh1))) ∧ atp f1 oq (lrw G 8 wo1) ∧ us.toInt = ((usw ww 8 : Nat) : Int) ∧ bi = bitw ww 8 ∧ stp ww mo.toInt sh1 wo1 8)) := by
  refine met2 (own := RX2) (by decide) rfl (Nat.le_of_ble_eq_true rfl) ?_
  intro p e s m args below meth c ls Q hQ C hr hini hl h
  have hl : lv_has ls 3 [(0, .ref u0), (1, .ref u1)] := hl
  obtain ⟨hx, hb, hml, hown, hts, hE0, hlk⟩ := id C
  have o := Fr.rf [20, 24, 25, 20007, 20008] τ f
  have L15 : ∀ (n15 : Nat) (ls : Array Slot) (f_15 : hM) (H : Heap) (locs : List Loc) (v15_2 : Int32) (g15_sq_R : Nat → Int32) (g15_oq_R : Nat → Int64) (g15_u0_6 : Int32) (g15_u0_7 : Int32), 8 - v15_2.toInt < (n15 : Int) → lv_has ls 3 [(0, .ref u0), (1, .ref u1), (2, .int v15_2)] → hw D b0 s.heap f_15 H locs → TI G 9 τ f_15 → Fr [20, 24, 25, 20007, 20008] τ f f_15 → iv v15_2 0 8 → iv g15_u0_6 0 8 → iv g15_u0_7 (-2147483648) 2147483647 → atp f_15 u0 (fd 4 (.ref sq)) → atp f_15 u0 (fd 5 (.ref oq)) → atp f_15 u0 (fd 8 (.int mo)) → atp f_15 u1 (fd 0 (.ref wq)) → atp f_15 sq (eqc (.inl (G 1, 8, .inl g15_sq_R))) → atp f_15 oq (lrw G 8 g15_oq_R) → atp f_15 wq (eqc (.inl (G 1, 8, .inl ww))) → atp f_15 u0 (fd 6 (.int g15_u0_6)) → atp f_15 u0 (fd 7 (.int g15_u0_7)) → (g15_u0_6.toInt = ((usw ww (Int.toNat v15_2.toInt) : Nat) : Int)) → (stp ww mo.toInt g15_sq_R g15_oq_R (Int.toNat v15_2.toInt)) → g15_u0_6.toInt ≤ v15_2.toInt → (g15_u0_7.toInt = (bitw ww 8).toInt) → W p l e rm_s_X2_takeSteps s m args below meth c H locs 0 0 Q (F0 m 15 ls []) := by
    intro n15
    induction n15 with
    | zero => intro ls f_15 H locs v15_2 g15_sq_R g15_oq_R g15_u0_6 g15_u0_7 hm15 hl h t_15 o_15 iv15_2 ig15_u0_6 ig15_u0_7 k15_u0_4 k15_u0_5 k15_u0_8 k15_u1_0 k15_sq_R k15_oq_R k15_wq_R k15_u0_6 k15_u0_7 hv15_0 hv15_1 hv15_2 hv15_3; exact absurd hm15 (by omega)
    | succ n15 ih15 =>
      intro ls f_15 H locs v15_2 g15_sq_R g15_oq_R g15_u0_6 g15_u0_7 hm15 hl h t_15 o_15 iv15_2 ig15_u0_6 ig15_u0_7 k15_u0_4 k15_u0_5 k15_u0_8 k15_u1_0 k15_sq_R k15_oq_R k15_wq_R k15_u0_6 k15_u0_7 hv15_0 hv15_1 hv15_2 hv15_3
      refine lv_iload_n hx hb dX2_takeSteps_15 rfl (lv_at hl 2 rfl) ?_
      refine lv_bipush (v := 8) hx hb dX2_takeSteps_16 (by decide) ?_
      refine lv_icmp_ge (tgt := 104) hx hb dX2_takeSteps_18 (by decide) (fun c1 => ?_) (fun c1 => ?_)
      · have c2 : 8 ≤ v15_2.toInt := Int32.le_iff_toInt_le.mp c1
        have i3 : iv v15_2 8 8 := iv_Er c2 (iv_k (x := 8) (k := 8) rfl) iv15_2 (by decide)
        exact u_vret C h hr hQ (⟨t_15, o_15, ⟨g15_u0_6, g15_u0_7, g15_sq_R, g15_oq_R, ⟨k15_u0_6, ig15_u0_6⟩, ⟨k15_u0_7, ig15_u0_7⟩, k15_sq_R, k15_oq_R, (by have e8_ : v15_2.toInt.toNat = 8 := (by omega); have h0_ := hv15_0; have h1_ := hv15_1; rw [e8_] at h0_ h1_; exact ⟨h0_, Int32.toInt_inj.mp hv15_3, h1_⟩)⟩⟩) (Nat.le_of_ble_eq_true rfl) (Nat.le_of_ble_eq_true rfl) dX2_takeSteps_104
      · have c4 : v15_2.toInt < 8 := Int32.lt_iff_toInt_lt.mp (iv_nle c1)
        have i5 : iv v15_2 0 7 := iv_Ll c4 iv15_2 (iv_k (x := 8) (k := 8) rfl) (by decide)
        refine lv_aload_n hx hb dX2_takeSteps_21 rfl (lv_at hl 1 rfl) ?_
        refine t_getfd C h t_15 hu1 (by decide) wf_1 (v := .ref wq) k15_u1_0 fl_X2_94 dX2_takeSteps_22 ?_
        refine lv_iload_n hx hb dX2_takeSteps_25 rfl (lv_at hl 2 rfl) ?_
        refine e_iald C h t_15 hwq (by decide) wf_2 k15_wq_R (iv_in i5 (by decide)) dX2_takeSteps_26 (fun z6 ez6 iz6 => ?_)
        have mz6 := congrArg Int32.toInt ez6
        refine lv_if_eq (tgt := 98) hx hb dX2_takeSteps_27 (by decide) (fun c7 => ?_) (fun c7 => ?_)
        · have c8 : z6.toInt = 0 := congrArg Int32.toInt c7
          have i9 : iv z6 0 0 := iv_Q c8 iz6 (iv_k (x := 0) (k := 0) rfl) (by decide)
          refine i_inc hx hb dX2_takeSteps_98 hl (k := 2) rfl i5 rfl (lo := 1) (hi := 8) (by decide) (by decide) (lv' := fun v => [(2, .int v), (0, .ref u0), (1, .ref u1)]) (fun _ => rfl) (fun z12 ls ez12 mz12 iz12 hl => ?_)
          refine lv_goto (tgt := 15) hx hb dX2_takeSteps_101 (by decide) ?_
          exact ih15 ls f_15 H locs z12 g15_sq_R g15_oq_R g15_u0_6 g15_u0_7 (show 8 - z12.toInt < _ by omega) (lv_cons hl 1 rfl (lv_cons hl 2 rfl (lv_cons hl 0 rfl (lv_nil hl)))) h t_15 o_15 (iv_w iz12 (by decide)) ig15_u0_6 ig15_u0_7 k15_u0_4 k15_u0_5 k15_u0_8 k15_u1_0 k15_sq_R k15_oq_R k15_wq_R k15_u0_6 k15_u0_7 (show g15_u0_6.toInt = ((usw ww (Int.toNat z12.toInt) : Nat) : Int) from (by rw [usw_s (i := v15_2.toInt) (by omega) (by omega), if_pos (by rw [← ez6]; omega)]; exact hv15_0)) (show stp ww mo.toInt g15_sq_R g15_oq_R (Int.toNat z12.toInt) from (by rw [show Int.toNat (z12.toInt) = v15_2.toInt.toNat + 1 by omega]; exact stp_no hv15_1 (by rw [← ez6]; omega))) (show g15_u0_6.toInt ≤ z12.toInt by omega) (show g15_u0_7.toInt = (bitw ww 8).toInt from hv15_3)
        · have c10 : z6.toInt ≠ 0 := fun z_ => c7 (Int32.toInt_inj.mp z_)
          have i11 : iv z6 1 9 := iv_Nl c10 iz6 (by decide)
          refine lv_aload_n hx hb dX2_takeSteps_30 rfl (lv_at hl 0 rfl) ?_
          refine t_getfd C h t_15 hu0 (by decide) wf_20 (v := .ref sq) k15_u0_4 fl_X2_28 dX2_takeSteps_31 ?_
          refine lv_aload_n hx hb dX2_takeSteps_34 rfl (lv_at hl 0 rfl) ?_
          refine t_getfd C h t_15 hu0 (by decide) wf_20 (v := .int g15_u0_6) k15_u0_6 fl_X2_85 dX2_takeSteps_35 ?_
          refine st_getN C h (i := 0) (by decide) (by decide) dX2_takeSteps_38 ?_
          refine lv_iload_n hx hb dX2_takeSteps_41 rfl (lv_at hl 2 rfl) ?_
          refine st_ald C h (k := 0) (by decide) st_b0 (iv_in i5 (by decide)) dX2_takeSteps_42 (fun z13 ez13 iz13 => ?_)
          have dz13 : z13.toInt = ddx v15_2.toInt := by rw [ez13]; exact st_ddx (i := v15_2) ⟨by omega, by omega⟩
          refine lv_bipush (v := 123) hx hb dX2_takeSteps_43 (by decide) ?_
          refine i_mulc hx hb dX2_takeSteps_45 iz13 (k := 123) rfl (lo := (-123)) (hi := 123) (by decide) (fun z14 ez14 mz14 iz14 => ?_)
          refine st_getN C h (i := 1) (by decide) (by decide) dX2_takeSteps_46 ?_
          refine lv_iload_n hx hb dX2_takeSteps_49 rfl (lv_at hl 2 rfl) ?_
          refine st_ald C h (k := 1) (by decide) st_b1 (iv_in i5 (by decide)) dX2_takeSteps_50 (fun z15 ez15 iz15 => ?_)
          have dz15 : z15.toInt = ddy v15_2.toInt := by rw [ez15]; exact st_ddy (i := v15_2) ⟨by omega, by omega⟩
          refine i_add hx hb dX2_takeSteps_51 iz14 iz15 (lo := (-124)) (hi := 124) (by decide) (fun z16 ez16 mz16 iz16 => ?_)
          refine e_iast C h t_15 o_15 hsq (by decide) (by decide) wf_24 fw_24 k15_sq_R (ix_o (by omega)) iz16 dX2_takeSteps_52 (fun R19 f17 erR19 H locs h tf17 of17 hq hn_ k18 => ?_)
          have k20 := atp.tg k15_u0_4 hq hu0 (by decide)
          have k21 := atp.tg k15_u0_5 hq hu0 (by decide)
          have k22 := atp.tg k15_u0_8 hq hu0 (by decide)
          have k23 := atp.tg k15_u1_0 hq hu1 (by decide)
          have k25 := atp.tg k15_oq_R hq hoq (by decide)
          have k26 := atp.tg k15_wq_R hq hwq (by decide)
          have k27 := atp.tg k15_u0_6 hq hu0 (by decide)
          have k28 := atp.tg k15_u0_7 hq hu0 (by decide)
          refine lv_aload_n hx hb dX2_takeSteps_53 rfl (lv_at hl 0 rfl) ?_
          refine t_getfd C h tf17 hu0 (by decide) wf_20 (v := .ref oq) k21 fl_X2_32 dX2_takeSteps_54 ?_
          refine lv_aload_n hx hb dX2_takeSteps_57 rfl (lv_at hl 0 rfl) ?_
          refine t_getfd C h tf17 hu0 (by decide) wf_20 (v := .int g15_u0_6) k27 fl_X2_85 dX2_takeSteps_58 ?_
          refine lv_aload_n hx hb dX2_takeSteps_61 rfl (lv_at hl 0 rfl) ?_
          refine t_getfd C h tf17 hu0 (by decide) wf_20 (v := .int mo) k22 fl_X2_46 dX2_takeSteps_62 ?_
          refine lv_if_eq (tgt := 76) hx hb dX2_takeSteps_65 (by decide) (fun c29 => ?_) (fun c29 => ?_)
          · have c30 : mo.toInt = 0 := congrArg Int32.toInt c29
            have i31 : iv mo 0 0 := iv_Q c30 hmo (iv_k (x := 0) (k := 0) rfl) (by decide)
            refine lv_aload_n hx hb dX2_takeSteps_76 rfl (lv_at hl 1 rfl) ?_
            refine t_getfd C h tf17 hu1 (by decide) wf_1 (v := .ref wq) k23 fl_X2_94 dX2_takeSteps_77 ?_
            refine lv_iload_n hx hb dX2_takeSteps_80 rfl (lv_at hl 2 rfl) ?_
            refine e_iald C h tf17 hwq (by decide) wf_2 k26 (iv_in i5 (by decide)) dX2_takeSteps_81 (fun z34 ez34 iz34 => ?_)
            have mz34 := congrArg Int32.toInt ez34
            refine lv_i2l hx hb dX2_takeSteps_82 rfl (i_topL iz34 (fun w35 ew35 mw35 iw35 => ?_))
            refine lv_goto (tgt := 87) hx hb dX2_takeSteps_83 (by decide) ?_
            refine e_last C h tf17 of17 hoq (by decide) (by decide) wf_25 fw_25 k25 (x := w35) (ix_o (by omega)) dX2_takeSteps_87 (fun R38 f36 erR38 H locs h tf36 of36 hq hn_ k37 => ?_)
            have k39 := atp.tg k20 hq hu0 (by decide)
            have k40 := atp.tg k21 hq hu0 (by decide)
            have k41 := atp.tg k22 hq hu0 (by decide)
            have k42 := atp.tg k23 hq hu1 (by decide)
            have k44 := atp.tg k26 hq hwq (by decide)
            have k45 := atp.tg k27 hq hu0 (by decide)
            have k46 := atp.tg k28 hq hu0 (by decide)
            have k47 := atp.tg k18 hq hsq (by decide)
            refine lv_aload_n hx hb dX2_takeSteps_88 rfl (lv_at hl 0 rfl) ?_
            refine lv_dup hx hb dX2_takeSteps_89 rfl ?_
            refine t_getfd C h tf36 hu0 (by decide) wf_20 (v := .int g15_u0_6) k45 fl_X2_85 dX2_takeSteps_90 ?_
            refine lv_iconst (v := 1) hx hb dX2_takeSteps_93 (by decide) ?_
            refine i_addk hx hb dX2_takeSteps_94 ig15_u0_6 (k := 1) rfl (lo := 1) (hi := 9) (by decide) (fun z48 ez48 mz48 iz48 => ?_)
            refine t_put C h tf36 of36 hu0 (by decide) (by decide) (by decide) wf_20 fw_20 (k := 6) rfl flw_X2_85 (Or.inr ⟨_, _, _, rfl, rfl⟩) (v := .int z48) rfl rfl ⟨_, rfl, (show iv z48 0 8 from by omega)⟩ dX2_takeSteps_95 (fun f49 H locs h tf49 of49 hq ha_ hn_ hk_ => ?_)
            have k50 := hk_ 4 _ (by decide) k39
            have k51 := hk_ 5 _ (by decide) k40
            have k52 := hk_ 8 _ (by decide) k41
            have k53 := atp.tg k42 hq hu1 (by decide)
            have k54 := atp.tg k44 hq hwq (by decide)
            have k56 := hk_ 7 _ (by decide) k46
            have k57 := atp.tg k47 hq hsq (by decide)
            have k58 := atp.tg k37 hq hoq (by decide)
            have k59 := ha_
            refine i_inc hx hb dX2_takeSteps_98 hl (k := 2) rfl i5 rfl (lo := 1) (hi := 8) (by decide) (by decide) (lv' := fun v => [(2, .int v), (0, .ref u0), (1, .ref u1)]) (fun _ => rfl) (fun z60 ls ez60 mz60 iz60 hl => ?_)
            refine lv_goto (tgt := 15) hx hb dX2_takeSteps_101 (by decide) ?_
            exact ih15 ls f49 H locs z60 R19 R38 z48 g15_u0_7 (show 8 - z60.toInt < _ by omega) (lv_cons hl 1 rfl (lv_cons hl 2 rfl (lv_cons hl 0 rfl (lv_nil hl)))) h tf49 of49 (iv_w iz60 (by decide)) (show iv z48 0 8 from by omega) ig15_u0_7 k50 k51 k52 k53 k57 k58 k54 k59 k56 (show z48.toInt = ((usw ww (Int.toNat z60.toInt) : Nat) : Int) from (by rw [usw_s (i := v15_2.toInt) (by omega) (by omega), if_neg (by rw [← ez34]; omega)]; omega)) (show stp ww mo.toInt R19 R38 (Int.toNat z60.toInt) from (by
                rw [show Int.toNat (z60.toInt) = v15_2.toInt.toNat + 1 by omega, erR19, erR38, show g15_u0_6.toInt.toNat = usw ww v15_2.toInt.toNat by omega]
                exact stp_s hv15_1 (by rw [show ((v15_2.toInt.toNat : Nat) : Int) = v15_2.toInt by omega]; omega) (by unfold wor; rw [if_pos (by omega), ew35, ez34]))) (show z48.toInt ≤ z60.toInt by omega) (show g15_u0_7.toInt = (bitw ww 8).toInt from hv15_3)
          · have c32 : mo.toInt ≠ 0 := fun z_ => c29 (Int32.toInt_inj.mp z_)
            have i33 : iv mo 1 3 := iv_Nl c32 hmo (by decide)
            refine lv_aload_n hx hb dX2_takeSteps_68 rfl (lv_at hl 0 rfl) ?_
            refine t_getfd C h tf17 hu0 (by decide) wf_20 (v := .int mo) k22 fl_X2_46 dX2_takeSteps_69 ?_
            refine lv_iconst (v := 1) hx hb dX2_takeSteps_72 (by decide) ?_
            refine lv_icmp_ne (tgt := 86) hx hb dX2_takeSteps_73 (by decide) (fun c61 => ?_) (fun c61 => ?_)
            · have c62 : mo.toInt ≠ 1 := fun z_ => c61 (Int32.toInt_inj.mp z_)
              have i63 : iv mo 2 3 := iv_Nl c62 i33 (by decide)
              refine lv_lconst (v := 1) hx hb dX2_takeSteps_86 (by decide) ?_
              refine e_last C h tf17 of17 hoq (by decide) (by decide) wf_25 fw_25 k25 (x := 1) (ix_o (by omega)) dX2_takeSteps_87 (fun R68 f66 erR68 H locs h tf66 of66 hq hn_ k67 => ?_)
              have k69 := atp.tg k20 hq hu0 (by decide)
              have k70 := atp.tg k21 hq hu0 (by decide)
              have k71 := atp.tg k22 hq hu0 (by decide)
              have k72 := atp.tg k23 hq hu1 (by decide)
              have k74 := atp.tg k26 hq hwq (by decide)
              have k75 := atp.tg k27 hq hu0 (by decide)
              have k76 := atp.tg k28 hq hu0 (by decide)
              have k77 := atp.tg k18 hq hsq (by decide)
              refine lv_aload_n hx hb dX2_takeSteps_88 rfl (lv_at hl 0 rfl) ?_
              refine lv_dup hx hb dX2_takeSteps_89 rfl ?_
              refine t_getfd C h tf66 hu0 (by decide) wf_20 (v := .int g15_u0_6) k75 fl_X2_85 dX2_takeSteps_90 ?_
              refine lv_iconst (v := 1) hx hb dX2_takeSteps_93 (by decide) ?_
              refine i_addk hx hb dX2_takeSteps_94 ig15_u0_6 (k := 1) rfl (lo := 1) (hi := 9) (by decide) (fun z78 ez78 mz78 iz78 => ?_)
              refine t_put C h tf66 of66 hu0 (by decide) (by decide) (by decide) wf_20 fw_20 (k := 6) rfl flw_X2_85 (Or.inr ⟨_, _, _, rfl, rfl⟩) (v := .int z78) rfl rfl ⟨_, rfl, (show iv z78 0 8 from by omega)⟩ dX2_takeSteps_95 (fun f79 H locs h tf79 of79 hq ha_ hn_ hk_ => ?_)
              have k80 := hk_ 4 _ (by decide) k69
              have k81 := hk_ 5 _ (by decide) k70
              have k82 := hk_ 8 _ (by decide) k71
              have k83 := atp.tg k72 hq hu1 (by decide)
              have k84 := atp.tg k74 hq hwq (by decide)
              have k86 := hk_ 7 _ (by decide) k76
              have k87 := atp.tg k77 hq hsq (by decide)
              have k88 := atp.tg k67 hq hoq (by decide)
              have k89 := ha_
              refine i_inc hx hb dX2_takeSteps_98 hl (k := 2) rfl i5 rfl (lo := 1) (hi := 8) (by decide) (by decide) (lv' := fun v => [(2, .int v), (0, .ref u0), (1, .ref u1)]) (fun _ => rfl) (fun z90 ls ez90 mz90 iz90 hl => ?_)
              refine lv_goto (tgt := 15) hx hb dX2_takeSteps_101 (by decide) ?_
              exact ih15 ls f79 H locs z90 R19 R68 z78 g15_u0_7 (show 8 - z90.toInt < _ by omega) (lv_cons hl 1 rfl (lv_cons hl 2 rfl (lv_cons hl 0 rfl (lv_nil hl)))) h tf79 of79 (iv_w iz90 (by decide)) (show iv z78 0 8 from by omega) ig15_u0_7 k80 k81 k82 k83 k87 k88 k84 k89 k86 (show z78.toInt = ((usw ww (Int.toNat z90.toInt) : Nat) : Int) from (by rw [usw_s (i := v15_2.toInt) (by omega) (by omega), if_neg (by rw [← ez6]; omega)]; omega)) (show stp ww mo.toInt R19 R68 (Int.toNat z90.toInt) from (by
                  rw [show Int.toNat (z90.toInt) = v15_2.toInt.toNat + 1 by omega, erR19, erR68, show g15_u0_6.toInt.toNat = usw ww v15_2.toInt.toNat by omega]
                  exact stp_s hv15_1 (by rw [show ((v15_2.toInt.toNat : Nat) : Int) = v15_2.toInt by omega]; omega) (by unfold wor; rw [if_neg (by omega)]))) (show z78.toInt ≤ z90.toInt by omega) (show g15_u0_7.toInt = (bitw ww 8).toInt from hv15_3)
            · have c64 : mo.toInt = 1 := congrArg Int32.toInt c61
              have i65 : iv mo 1 1 := iv_Q c64 i33 (iv_k (x := 1) (k := 1) rfl) (by decide)
              refine lv_aload_n hx hb dX2_takeSteps_76 rfl (lv_at hl 1 rfl) ?_
              refine t_getfd C h tf17 hu1 (by decide) wf_1 (v := .ref wq) k23 fl_X2_94 dX2_takeSteps_77 ?_
              refine lv_iload_n hx hb dX2_takeSteps_80 rfl (lv_at hl 2 rfl) ?_
              refine e_iald C h tf17 hwq (by decide) wf_2 k26 (iv_in i5 (by decide)) dX2_takeSteps_81 (fun z91 ez91 iz91 => ?_)
              have mz91 := congrArg Int32.toInt ez91
              refine lv_i2l hx hb dX2_takeSteps_82 rfl (i_topL iz91 (fun w92 ew92 mw92 iw92 => ?_))
              refine lv_goto (tgt := 87) hx hb dX2_takeSteps_83 (by decide) ?_
              refine e_last C h tf17 of17 hoq (by decide) (by decide) wf_25 fw_25 k25 (x := w92) (ix_o (by omega)) dX2_takeSteps_87 (fun R95 f93 erR95 H locs h tf93 of93 hq hn_ k94 => ?_)
              have k96 := atp.tg k20 hq hu0 (by decide)
              have k97 := atp.tg k21 hq hu0 (by decide)
              have k98 := atp.tg k22 hq hu0 (by decide)
              have k99 := atp.tg k23 hq hu1 (by decide)
              have k101 := atp.tg k26 hq hwq (by decide)
              have k102 := atp.tg k27 hq hu0 (by decide)
              have k103 := atp.tg k28 hq hu0 (by decide)
              have k104 := atp.tg k18 hq hsq (by decide)
              refine lv_aload_n hx hb dX2_takeSteps_88 rfl (lv_at hl 0 rfl) ?_
              refine lv_dup hx hb dX2_takeSteps_89 rfl ?_
              refine t_getfd C h tf93 hu0 (by decide) wf_20 (v := .int g15_u0_6) k102 fl_X2_85 dX2_takeSteps_90 ?_
              refine lv_iconst (v := 1) hx hb dX2_takeSteps_93 (by decide) ?_
              refine i_addk hx hb dX2_takeSteps_94 ig15_u0_6 (k := 1) rfl (lo := 1) (hi := 9) (by decide) (fun z105 ez105 mz105 iz105 => ?_)
              refine t_put C h tf93 of93 hu0 (by decide) (by decide) (by decide) wf_20 fw_20 (k := 6) rfl flw_X2_85 (Or.inr ⟨_, _, _, rfl, rfl⟩) (v := .int z105) rfl rfl ⟨_, rfl, (show iv z105 0 8 from by omega)⟩ dX2_takeSteps_95 (fun f106 H locs h tf106 of106 hq ha_ hn_ hk_ => ?_)
              have k107 := hk_ 4 _ (by decide) k96
              have k108 := hk_ 5 _ (by decide) k97
              have k109 := hk_ 8 _ (by decide) k98
              have k110 := atp.tg k99 hq hu1 (by decide)
              have k111 := atp.tg k101 hq hwq (by decide)
              have k113 := hk_ 7 _ (by decide) k103
              have k114 := atp.tg k104 hq hsq (by decide)
              have k115 := atp.tg k94 hq hoq (by decide)
              have k116 := ha_
              refine i_inc hx hb dX2_takeSteps_98 hl (k := 2) rfl i5 rfl (lo := 1) (hi := 8) (by decide) (by decide) (lv' := fun v => [(2, .int v), (0, .ref u0), (1, .ref u1)]) (fun _ => rfl) (fun z117 ls ez117 mz117 iz117 hl => ?_)
              refine lv_goto (tgt := 15) hx hb dX2_takeSteps_101 (by decide) ?_
              exact ih15 ls f106 H locs z117 R19 R95 z105 g15_u0_7 (show 8 - z117.toInt < _ by omega) (lv_cons hl 1 rfl (lv_cons hl 2 rfl (lv_cons hl 0 rfl (lv_nil hl)))) h tf106 of106 (iv_w iz117 (by decide)) (show iv z105 0 8 from by omega) ig15_u0_7 k107 k108 k109 k110 k114 k115 k111 k116 k113 (show z105.toInt = ((usw ww (Int.toNat z117.toInt) : Nat) : Int) from (by rw [usw_s (i := v15_2.toInt) (by omega) (by omega), if_neg (by rw [← ez91]; omega)]; omega)) (show stp ww mo.toInt R19 R95 (Int.toNat z117.toInt) from (by
                  rw [show Int.toNat (z117.toInt) = v15_2.toInt.toNat + 1 by omega, erR19, erR95, show g15_u0_6.toInt.toNat = usw ww v15_2.toInt.toNat by omega]
                  exact stp_s hv15_1 (by rw [show ((v15_2.toInt.toNat : Nat) : Int) = v15_2.toInt by omega]; omega) (by unfold wor; rw [if_pos (by omega), ew92, ez91]))) (show z105.toInt ≤ z117.toInt by omega) (show g15_u0_7.toInt = (bitw ww 8).toInt from hv15_3)
  refine lv_aload_n hx hb dX2_takeSteps_0 rfl (lv_at hl 0 rfl) ?_
  refine lv_iconst (v := 0) hx hb dX2_takeSteps_1 (by decide) ?_
  refine t_put C h t o hu0 (by decide) (by decide) (by decide) wf_20 fw_20 (k := 6) rfl flw_X2_85 (Or.inr ⟨_, _, _, rfl, rfl⟩) (v := .int 0) rfl rfl ⟨_, rfl, ⟨by decide, by decide⟩⟩ dX2_takeSteps_2 (fun f118 H locs h tf118 of118 hq ha_ hn_ hk_ => ?_)
  have k119 := hk_ 4 _ (by decide) k_u0_4
  have k120 := hk_ 5 _ (by decide) k_u0_5
  have k121 := hk_ 8 _ (by decide) k_u0_8
  have k122 := atp.tg k_u1_0 hq hu1 (by decide)
  have k123 := atp.tg hRsq hq hsq (by decide)
  have k124 := atp.tg hRoq hq hoq (by decide)
  have k125 := atp.tg hRwq hq hwq (by decide)
  have k126 := ha_
  refine lv_aload_n hx hb dX2_takeSteps_5 rfl (lv_at hl 0 rfl) ?_
  refine lv_aload_n hx hb dX2_takeSteps_6 rfl (lv_at hl 1 rfl) ?_
  obtain ⟨_, r127⟩ := t_rec tf118 hu1 (by decide) wf_1
  refine k_i (r_V C h hl (As := []) (rest := [.ref u0]) (s_X6_bitsX l D G b0 τ f118 tf118 u1 hu1 wq hwq k122 ww k125) r127 (Cn := RX6) (T := TX6) (N := 4) rfl rfl mk_X6_bits w_679 w_680 w_681 w_682 ⟨Nat.le_of_ble_eq_true rfl, Nat.le_of_ble_eq_true rfl⟩ rfl (Nat.le_of_ble_eq_true rfl) ⟨Nat.le_of_ble_eq_true rfl, Nat.le_of_ble_eq_true rfl⟩ rfl dX2_takeSteps_7) h (fun r128 f129 H locs p130 h => ?_)
  obtain ⟨ir128, tf129, ogf129, x0r128⟩ := p130
  have egf129 := Fr.nil2 ogf129
  subst egf129
  have hbi_ := x0r128
  have ibi_ := iv_any r128
  refine t_put C h tf118 of118 hu0 (by decide) (by decide) (by decide) wf_20 fw_20 (k := 7) rfl flw_X2_92 (Or.inr ⟨_, _, _, rfl, rfl⟩) (v := .int r128) rfl rfl ⟨_, rfl, ir128⟩ dX2_takeSteps_10 (fun f131 H locs h tf131 of131 hq ha_ hn_ hk_ => ?_)
  have k132 := hk_ 4 _ (by decide) k119
  have k133 := hk_ 5 _ (by decide) k120
  have k134 := hk_ 8 _ (by decide) k121
  have k135 := atp.tg k122 hq hu1 (by decide)
  have k136 := atp.tg k123 hq hsq (by decide)
  have k137 := atp.tg k124 hq hoq (by decide)
  have k138 := atp.tg k125 hq hwq (by decide)
  have k139 := hk_ 6 _ (by decide) k126
  have k140 := ha_
  refine lv_iconst (v := 0) hx hb dX2_takeSteps_13 (by decide) ?_
  refine lv_istore_n (lv' := [(2, .int 0), (0, .ref u0), (1, .ref u1)]) hx hb dX2_takeSteps_14 rfl hl (by decide) rfl (fun ls hl => ?_)
  exact L15 9 ls f131 H locs 0 sh wo 0 r128 (by decide) (lv_cons hl 1 rfl (lv_cons hl 2 rfl (lv_cons hl 0 rfl (lv_nil hl)))) h tf131 of131 ⟨by decide, by decide⟩ ⟨by decide, by decide⟩ ir128 k132 k133 k134 k135 k136 k137 k138 k139 k140 (show 0 = ((usw ww (Int.toNat 0) : Nat) : Int) from (by rfl)) (show stp ww mo.toInt sh wo (Int.toNat 0) from (by rw [show Int.toNat 0 = 0 from rfl]; exact stp_0)) (show 0 ≤ 0 by omega) (show r128.toInt = (bitw ww 8).toInt from (by rw [hbi_]))
abbrev rm_s_X2_widen : Room := { frames := 1, cells := 0, slots := 0, locals := 18 }
set_option maxRecDepth 100000 in
set_option maxHeartbeats 4000000 in
theorem s_X2_widen (l : Launch) (D : va_G) (G : Nat → Nat) (b0 : Nat) (τ : Nat → Nat) (f : hM) (t : TI G 9 τ f) (u0 : Nat) (hu0 : τ u0 = 20) (rq : Nat) (hrq : τ rq = 23) (k_u0_3 : atp f u0 (fd 3 (.ref rq))) (rl : Int32) (hrl : iv rl (-60) 69) (k_rq_0 : atp f rq (fd 0 (.int rl))) (rb : Int32) (hrb : iv rb (-60) 69) (k_rq_1 : atp f rq (fd 1 (.int rb))) (rr : Int32) (hrr : iv rr (-60) 69) (k_rq_2 : atp f rq (fd 2 (.int rr))) (rt : Int32) (hrt : iv rt (-60) 69) (k_rq_3 : atp f rq (fd 3 (.int rt))) (mq : Nat) (hmq : τ mq = 22) (k_u0_2 : atp f u0 (fd 2 (.ref mq))) (qml : Int32) (hqml : iv qml (-60) 69) (k_mq_0 : atp f mq (fd 0 (.int qml))) (qmb : Int32) (hqmb : iv qmb (-60) 69) (k_mq_1 : atp f mq (fd 1 (.int qmb))) (qmr : Int32) (hqmr : iv qmr (-60) 69) (k_mq_2 : atp f mq (fd 2 (.int qmr))) (qmt : Int32) (hqmt : iv qmt (-60) 69) (k_mq_3 : atp f mq (fd 3 (.int qmt))) (bi : Int32) (hbi : iv bi (-2147483648) 2147483647) (k_u0_7 : atp f u0 (fd 7 (.int bi))) (hr0 : qml.toInt ≤ rl.toInt) (hr1 : rr.toInt ≤ qmr.toInt) (hr2 : qmb.toInt ≤ rb.toInt) (hr3 : rt.toInt ≤ qmt.toInt) : mV l yX2_widen cX2_widen 1 rm_s_X2_widen D G b0 f [.ref u0] (fun f1 => TI G 9 τ f1 ∧ Fr [23, 23001, 23002, 23003, 23004] τ f f1 ∧ (∃ (rl1 : Int32) (rb1 : Int32) (rr1 : Int32) (rt1 : Int32), (atp f1 rq (fd 0 (.int rl1)) ∧ iv rl1 (-60) 69) ∧ (atp f1 rq (fd 1 (.int rb1)) ∧ iv rb1 (-60) 69) ∧ (atp f1 rq (fd 2 (.int rr1)) ∧ iv rr1 (-60) 69) ∧ (atp f1 rq (fd 3 (.int rt1)) ∧ iv rt1 (-60) 69) ∧ wdn bi rl rb rr rt qml qmb qmr qmt rl1 rb1 rr1 rt1)) := by
  refine met2 (own := RX2) (by decide) rfl (Nat.le_of_ble_eq_true rfl) ?_
  intro p e s m args below meth c ls Q hQ C hr hini hl h
  have hl : lv_has ls 1 [(0, .ref u0)] := hl
  obtain ⟨hx, hb, hml, hown, hts, hE0, hlk⟩ := id C
  have o := Fr.rf [23, 23001, 23002, 23003, 23004] τ f
  have L37 : ∀ (ls : Array Slot) (f_37 : hM) (H : Heap) (locs : List Loc) (g37_rq_0 : Int32), lv_has ls 1 [(0, .ref u0)] → hw D b0 s.heap f_37 H locs → TI G 9 τ f_37 → Fr [23, 23001, 23002, 23003, 23004] τ f f_37 → iv g37_rq_0 (-60) 69 → atp f_37 u0 (fd 3 (.ref rq)) → atp f_37 rq (fd 0 (.int g37_rq_0)) → atp f_37 rq (fd 1 (.int rb)) → atp f_37 rq (fd 2 (.int rr)) → atp f_37 rq (fd 3 (.int rt)) → atp f_37 u0 (fd 2 (.ref mq)) → atp f_37 mq (fd 0 (.int qml)) → atp f_37 mq (fd 1 (.int qmb)) → atp f_37 mq (fd 2 (.int qmr)) → atp f_37 mq (fd 3 (.int qmt)) → atp f_37 u0 (fd 7 (.int bi)) → g37_rq_0.toInt ≤ rl.toInt ∧ qml.toInt ≤ g37_rq_0.toInt ∧ ((bi &&& 224).toInt ≠ 0 → g37_rq_0.toInt ≤ rl.toInt - 1 ∨ g37_rq_0.toInt ≤ qml.toInt) → W p l e rm_s_X2_widen s m args below meth c H locs 0 0 Q (F0 m 37 ls []) := by
    intro ls f_37 H locs g37_rq_0 hl h t_37 o_37 ig37_rq_0 k37_u0_3 k37_rq_0 k37_rq_1 k37_rq_2 k37_rq_3 k37_u0_2 k37_mq_0 k37_mq_1 k37_mq_2 k37_mq_3 k37_u0_7 hv37_0
    have L73 : ∀ (ls : Array Slot) (f_73 : hM) (H : Heap) (locs : List Loc) (g73_rq_2 : Int32), lv_has ls 1 [(0, .ref u0)] → hw D b0 s.heap f_73 H locs → TI G 9 τ f_73 → Fr [23, 23001, 23002, 23003, 23004] τ f f_73 → iv g73_rq_2 (-60) 69 → atp f_73 u0 (fd 3 (.ref rq)) → atp f_73 rq (fd 0 (.int g37_rq_0)) → atp f_73 rq (fd 1 (.int rb)) → atp f_73 rq (fd 2 (.int g73_rq_2)) → atp f_73 rq (fd 3 (.int rt)) → atp f_73 u0 (fd 2 (.ref mq)) → atp f_73 mq (fd 0 (.int qml)) → atp f_73 mq (fd 1 (.int qmb)) → atp f_73 mq (fd 2 (.int qmr)) → atp f_73 mq (fd 3 (.int qmt)) → atp f_73 u0 (fd 7 (.int bi)) → g37_rq_0.toInt ≤ rl.toInt ∧ qml.toInt ≤ g37_rq_0.toInt ∧ ((bi &&& 224).toInt ≠ 0 → g37_rq_0.toInt ≤ rl.toInt - 1 ∨ g37_rq_0.toInt ≤ qml.toInt) → rr.toInt ≤ g73_rq_2.toInt ∧ g73_rq_2.toInt ≤ qmr.toInt ∧ ((bi &&& 14).toInt ≠ 0 → rr.toInt + 1 ≤ g73_rq_2.toInt ∨ qmr.toInt ≤ g73_rq_2.toInt) → W p l e rm_s_X2_widen s m args below meth c H locs 0 0 Q (F0 m 73 ls []) := by
      intro ls f_73 H locs g73_rq_2 hl h t_73 o_73 ig73_rq_2 k73_u0_3 k73_rq_0 k73_rq_1 k73_rq_2 k73_rq_3 k73_u0_2 k73_mq_0 k73_mq_1 k73_mq_2 k73_mq_3 k73_u0_7 hv73_0 hv73_1
      have L109 : ∀ (ls : Array Slot) (f_109 : hM) (H : Heap) (locs : List Loc) (g109_rq_1 : Int32), lv_has ls 1 [(0, .ref u0)] → hw D b0 s.heap f_109 H locs → TI G 9 τ f_109 → Fr [23, 23001, 23002, 23003, 23004] τ f f_109 → iv g109_rq_1 (-60) 69 → atp f_109 u0 (fd 3 (.ref rq)) → atp f_109 rq (fd 0 (.int g37_rq_0)) → atp f_109 rq (fd 1 (.int g109_rq_1)) → atp f_109 rq (fd 2 (.int g73_rq_2)) → atp f_109 rq (fd 3 (.int rt)) → atp f_109 u0 (fd 2 (.ref mq)) → atp f_109 mq (fd 0 (.int qml)) → atp f_109 mq (fd 1 (.int qmb)) → atp f_109 mq (fd 2 (.int qmr)) → atp f_109 mq (fd 3 (.int qmt)) → atp f_109 u0 (fd 7 (.int bi)) → g37_rq_0.toInt ≤ rl.toInt ∧ qml.toInt ≤ g37_rq_0.toInt ∧ ((bi &&& 224).toInt ≠ 0 → g37_rq_0.toInt ≤ rl.toInt - 1 ∨ g37_rq_0.toInt ≤ qml.toInt) → rr.toInt ≤ g73_rq_2.toInt ∧ g73_rq_2.toInt ≤ qmr.toInt ∧ ((bi &&& 14).toInt ≠ 0 → rr.toInt + 1 ≤ g73_rq_2.toInt ∨ qmr.toInt ≤ g73_rq_2.toInt) → g109_rq_1.toInt ≤ rb.toInt ∧ qmb.toInt ≤ g109_rq_1.toInt ∧ ((bi &&& 56).toInt ≠ 0 → g109_rq_1.toInt ≤ rb.toInt - 1 ∨ g109_rq_1.toInt ≤ qmb.toInt) → W p l e rm_s_X2_widen s m args below meth c H locs 0 0 Q (F0 m 109 ls []) := by
        intro ls f_109 H locs g109_rq_1 hl h t_109 o_109 ig109_rq_1 k109_u0_3 k109_rq_0 k109_rq_1 k109_rq_2 k109_rq_3 k109_u0_2 k109_mq_0 k109_mq_1 k109_mq_2 k109_mq_3 k109_u0_7 hv109_0 hv109_1 hv109_2
        refine lv_aload_n hx hb dX2_widen_109 rfl (lv_at hl 0 rfl) ?_
        refine t_getfd C h t_109 hu0 (by decide) wf_20 (v := .int bi) k109_u0_7 fl_X2_92 dX2_widen_110 ?_
        refine lv_sipush (v := 131) hx hb dX2_widen_113 (by decide) ?_
        refine lv_iand hx hb dX2_widen_116 (i_top (iv_and (k := 131) rfl (by decide)) (fun z1 ez1 iz1 => ?_))
        have mmz1 : z1.toInt = (bi &&& 131).toInt := congrArg Int32.toInt ez1
        refine lv_if_eq (tgt := 146) hx hb dX2_widen_117 (by decide) (fun c2 => ?_) (fun c2 => ?_)
        · have c3 : z1.toInt = 0 := congrArg Int32.toInt c2
          have i4 : iv z1 0 0 := iv_Q c3 iz1 (iv_k (x := 0) (k := 0) rfl) (by decide)
          exact u_vret C h hr hQ (⟨t_109, o_109, ⟨g37_rq_0, g109_rq_1, g73_rq_2, rt, ⟨k109_rq_0, ig37_rq_0⟩, ⟨k109_rq_1, ig109_rq_1⟩, ⟨k109_rq_2, ig73_rq_2⟩, ⟨k109_rq_3, hrt⟩, (by unfold wdn; exact ⟨⟨by omega, by omega, by omega⟩, ⟨by omega, by omega, by omega⟩, ⟨by omega, by omega, by omega⟩, by omega, by omega, by omega⟩)⟩⟩) (Nat.le_of_ble_eq_true rfl) (Nat.le_of_ble_eq_true rfl) dX2_widen_146
        · have c5 : z1.toInt ≠ 0 := fun z_ => c2 (Int32.toInt_inj.mp z_)
          have i6 : iv z1 1 131 := iv_Nl c5 iz1 (by decide)
          refine lv_aload_n hx hb dX2_widen_120 rfl (lv_at hl 0 rfl) ?_
          refine t_getfd C h t_109 hu0 (by decide) wf_20 (v := .ref rq) k109_u0_3 fl_X2_25 dX2_widen_121 ?_
          refine lv_aload_n hx hb dX2_widen_124 rfl (lv_at hl 0 rfl) ?_
          refine t_getfd C h t_109 hu0 (by decide) wf_20 (v := .ref rq) k109_u0_3 fl_X2_25 dX2_widen_125 ?_
          refine t_getfd C h t_109 hrq (by decide) wf_23 (v := .int rt) k109_rq_3 fl_X2_69 dX2_widen_128 ?_
          refine lv_iconst (v := 1) hx hb dX2_widen_131 (by decide) ?_
          refine i_addk hx hb dX2_widen_132 hrt (k := 1) rfl (lo := (-59)) (hi := 70) (by decide) (fun z7 ez7 mz7 iz7 => ?_)
          refine lv_aload_n hx hb dX2_widen_133 rfl (lv_at hl 0 rfl) ?_
          refine t_getfd C h t_109 hu0 (by decide) wf_20 (v := .ref mq) k109_u0_2 fl_X2_21 dX2_widen_134 ?_
          refine t_getfd C h t_109 hmq (by decide) wf_22 (v := .int qmt) k109_mq_3 fl_X2_69 dX2_widen_137 ?_
          refine va_mmin hx hb (hml.trans hl.1.symm) hown (hts _ w_696) (hts _ w_548) (hts _ w_112) (hts _ w_549) (Nat.le_of_ble_eq_true rfl) (Nat.le_of_ble_eq_true rfl) (Nat.le_of_ble_eq_true rfl) (Nat.le_of_ble_eq_true rfl) dX2_widen_140 (i_min iz7 hqmt (lo := (-60)) (hi := 69) (by decide) (fun z8 mz8 iz8 => ?_))
          refine t_put C h t_109 o_109 hrq (by decide) (by decide) (by decide) wf_23 fw_23 (k := 3) rfl flw_X2_69 (Or.inr ⟨_, _, _, rfl, rfl⟩) (v := .int z8) rfl rfl ⟨_, rfl, iz8⟩ dX2_widen_143 (fun f9 H locs h tf9 of9 hq ha_ hn_ hk_ => ?_)
          have k10 := atp.tg k109_u0_3 hq hu0 (by decide)
          have k11 := hk_ 0 _ (by decide) k109_rq_0
          have k12 := hk_ 1 _ (by decide) k109_rq_1
          have k13 := hk_ 2 _ (by decide) k109_rq_2
          have k15 := atp.tg k109_u0_2 hq hu0 (by decide)
          have k16 := atp.tg k109_mq_0 hq hmq (by decide)
          have k17 := atp.tg k109_mq_1 hq hmq (by decide)
          have k18 := atp.tg k109_mq_2 hq hmq (by decide)
          have k19 := atp.tg k109_mq_3 hq hmq (by decide)
          have k20 := atp.tg k109_u0_7 hq hu0 (by decide)
          have k21 := ha_
          exact u_vret C h hr hQ (⟨tf9, of9, ⟨g37_rq_0, g109_rq_1, g73_rq_2, z8, ⟨k11, ig37_rq_0⟩, ⟨k12, ig109_rq_1⟩, ⟨k13, ig73_rq_2⟩, ⟨k21, iz8⟩, (by unfold wdn; exact ⟨⟨by omega, by omega, by omega⟩, ⟨by omega, by omega, by omega⟩, ⟨by omega, by omega, by omega⟩, by omega, by omega, by omega⟩)⟩⟩) (Nat.le_of_ble_eq_true rfl) (Nat.le_of_ble_eq_true rfl) dX2_widen_146
      refine lv_aload_n hx hb dX2_widen_73 rfl (lv_at hl 0 rfl) ?_
      refine t_getfd C h t_73 hu0 (by decide) wf_20 (v := .int bi) k73_u0_7 fl_X2_92 dX2_widen_74 ?_
      refine lv_bipush (v := 56) hx hb dX2_widen_77 (by decide) ?_
      refine lv_iand hx hb dX2_widen_79 (i_top (iv_and (k := 56) rfl (by decide)) (fun z22 ez22 iz22 => ?_))
      have mmz22 : z22.toInt = (bi &&& 56).toInt := congrArg Int32.toInt ez22
      refine lv_if_eq (tgt := 109) hx hb dX2_widen_80 (by decide) (fun c23 => ?_) (fun c23 => ?_)
      · have c24 : z22.toInt = 0 := congrArg Int32.toInt c23
        have i25 : iv z22 0 0 := iv_Q c24 iz22 (iv_k (x := 0) (k := 0) rfl) (by decide)
        exact L109 ls f_73 H locs rb (lv_cons hl 0 rfl (lv_nil hl)) h t_73 o_73 hrb k73_u0_3 k73_rq_0 k73_rq_1 k73_rq_2 k73_rq_3 k73_u0_2 k73_mq_0 k73_mq_1 k73_mq_2 k73_mq_3 k73_u0_7 (show g37_rq_0.toInt ≤ rl.toInt ∧ qml.toInt ≤ g37_rq_0.toInt ∧ ((bi &&& 224).toInt ≠ 0 → g37_rq_0.toInt ≤ rl.toInt - 1 ∨ g37_rq_0.toInt ≤ qml.toInt) by omega) (show rr.toInt ≤ g73_rq_2.toInt ∧ g73_rq_2.toInt ≤ qmr.toInt ∧ ((bi &&& 14).toInt ≠ 0 → rr.toInt + 1 ≤ g73_rq_2.toInt ∨ qmr.toInt ≤ g73_rq_2.toInt) by omega) (show rb.toInt ≤ rb.toInt ∧ qmb.toInt ≤ rb.toInt ∧ ((bi &&& 56).toInt ≠ 0 → rb.toInt ≤ rb.toInt - 1 ∨ rb.toInt ≤ qmb.toInt) by omega)
      · have c26 : z22.toInt ≠ 0 := fun z_ => c23 (Int32.toInt_inj.mp z_)
        have i27 : iv z22 1 56 := iv_Nl c26 iz22 (by decide)
        refine lv_aload_n hx hb dX2_widen_83 rfl (lv_at hl 0 rfl) ?_
        refine t_getfd C h t_73 hu0 (by decide) wf_20 (v := .ref rq) k73_u0_3 fl_X2_25 dX2_widen_84 ?_
        refine lv_aload_n hx hb dX2_widen_87 rfl (lv_at hl 0 rfl) ?_
        refine t_getfd C h t_73 hu0 (by decide) wf_20 (v := .ref rq) k73_u0_3 fl_X2_25 dX2_widen_88 ?_
        refine t_getfd C h t_73 hrq (by decide) wf_23 (v := .int rb) k73_rq_1 fl_X2_63 dX2_widen_91 ?_
        refine lv_iconst (v := 1) hx hb dX2_widen_94 (by decide) ?_
        refine i_subk hx hb dX2_widen_95 hrb (k := 1) rfl (lo := (-61)) (hi := 68) (by decide) (fun z28 ez28 mz28 iz28 => ?_)
        refine lv_aload_n hx hb dX2_widen_96 rfl (lv_at hl 0 rfl) ?_
        refine t_getfd C h t_73 hu0 (by decide) wf_20 (v := .ref mq) k73_u0_2 fl_X2_21 dX2_widen_97 ?_
        refine t_getfd C h t_73 hmq (by decide) wf_22 (v := .int qmb) k73_mq_1 fl_X2_63 dX2_widen_100 ?_
        refine va_mmax hx hb (hml.trans hl.1.symm) hown (hts _ w_695) (hts _ w_453) (hts _ w_112) (hts _ w_454) (Nat.le_of_ble_eq_true rfl) (Nat.le_of_ble_eq_true rfl) (Nat.le_of_ble_eq_true rfl) (Nat.le_of_ble_eq_true rfl) dX2_widen_103 (i_max iz28 hqmb (lo := (-60)) (hi := 69) (by decide) (fun z29 mz29 iz29 => ?_))
        refine t_put C h t_73 o_73 hrq (by decide) (by decide) (by decide) wf_23 fw_23 (k := 1) rfl flw_X2_63 (Or.inr ⟨_, _, _, rfl, rfl⟩) (v := .int z29) rfl rfl ⟨_, rfl, iz29⟩ dX2_widen_106 (fun f30 H locs h tf30 of30 hq ha_ hn_ hk_ => ?_)
        have k31 := atp.tg k73_u0_3 hq hu0 (by decide)
        have k32 := hk_ 0 _ (by decide) k73_rq_0
        have k34 := hk_ 2 _ (by decide) k73_rq_2
        have k35 := hk_ 3 _ (by decide) k73_rq_3
        have k36 := atp.tg k73_u0_2 hq hu0 (by decide)
        have k37 := atp.tg k73_mq_0 hq hmq (by decide)
        have k38 := atp.tg k73_mq_1 hq hmq (by decide)
        have k39 := atp.tg k73_mq_2 hq hmq (by decide)
        have k40 := atp.tg k73_mq_3 hq hmq (by decide)
        have k41 := atp.tg k73_u0_7 hq hu0 (by decide)
        have k42 := ha_
        exact L109 ls f30 H locs z29 (lv_cons hl 0 rfl (lv_nil hl)) h tf30 of30 iz29 k31 k32 k42 k34 k35 k36 k37 k38 k39 k40 k41 (show g37_rq_0.toInt ≤ rl.toInt ∧ qml.toInt ≤ g37_rq_0.toInt ∧ ((bi &&& 224).toInt ≠ 0 → g37_rq_0.toInt ≤ rl.toInt - 1 ∨ g37_rq_0.toInt ≤ qml.toInt) by omega) (show rr.toInt ≤ g73_rq_2.toInt ∧ g73_rq_2.toInt ≤ qmr.toInt ∧ ((bi &&& 14).toInt ≠ 0 → rr.toInt + 1 ≤ g73_rq_2.toInt ∨ qmr.toInt ≤ g73_rq_2.toInt) by omega) (show z29.toInt ≤ rb.toInt ∧ qmb.toInt ≤ z29.toInt ∧ ((bi &&& 56).toInt ≠ 0 → z29.toInt ≤ rb.toInt - 1 ∨ z29.toInt ≤ qmb.toInt) by omega)
    refine lv_aload_n hx hb dX2_widen_37 rfl (lv_at hl 0 rfl) ?_
    refine t_getfd C h t_37 hu0 (by decide) wf_20 (v := .int bi) k37_u0_7 fl_X2_92 dX2_widen_38 ?_
    refine lv_bipush (v := 14) hx hb dX2_widen_41 (by decide) ?_
    refine lv_iand hx hb dX2_widen_43 (i_top (iv_and (k := 14) rfl (by decide)) (fun z43 ez43 iz43 => ?_))
    have mmz43 : z43.toInt = (bi &&& 14).toInt := congrArg Int32.toInt ez43
    refine lv_if_eq (tgt := 73) hx hb dX2_widen_44 (by decide) (fun c44 => ?_) (fun c44 => ?_)
    · have c45 : z43.toInt = 0 := congrArg Int32.toInt c44
      have i46 : iv z43 0 0 := iv_Q c45 iz43 (iv_k (x := 0) (k := 0) rfl) (by decide)
      exact L73 ls f_37 H locs rr (lv_cons hl 0 rfl (lv_nil hl)) h t_37 o_37 hrr k37_u0_3 k37_rq_0 k37_rq_1 k37_rq_2 k37_rq_3 k37_u0_2 k37_mq_0 k37_mq_1 k37_mq_2 k37_mq_3 k37_u0_7 (show g37_rq_0.toInt ≤ rl.toInt ∧ qml.toInt ≤ g37_rq_0.toInt ∧ ((bi &&& 224).toInt ≠ 0 → g37_rq_0.toInt ≤ rl.toInt - 1 ∨ g37_rq_0.toInt ≤ qml.toInt) by omega) (show rr.toInt ≤ rr.toInt ∧ rr.toInt ≤ qmr.toInt ∧ ((bi &&& 14).toInt ≠ 0 → rr.toInt + 1 ≤ rr.toInt ∨ qmr.toInt ≤ rr.toInt) by omega)
    · have c47 : z43.toInt ≠ 0 := fun z_ => c44 (Int32.toInt_inj.mp z_)
      have i48 : iv z43 1 14 := iv_Nl c47 iz43 (by decide)
      refine lv_aload_n hx hb dX2_widen_47 rfl (lv_at hl 0 rfl) ?_
      refine t_getfd C h t_37 hu0 (by decide) wf_20 (v := .ref rq) k37_u0_3 fl_X2_25 dX2_widen_48 ?_
      refine lv_aload_n hx hb dX2_widen_51 rfl (lv_at hl 0 rfl) ?_
      refine t_getfd C h t_37 hu0 (by decide) wf_20 (v := .ref rq) k37_u0_3 fl_X2_25 dX2_widen_52 ?_
      refine t_getfd C h t_37 hrq (by decide) wf_23 (v := .int rr) k37_rq_2 fl_X2_66 dX2_widen_55 ?_
      refine lv_iconst (v := 1) hx hb dX2_widen_58 (by decide) ?_
      refine i_addk hx hb dX2_widen_59 hrr (k := 1) rfl (lo := (-59)) (hi := 70) (by decide) (fun z49 ez49 mz49 iz49 => ?_)
      refine lv_aload_n hx hb dX2_widen_60 rfl (lv_at hl 0 rfl) ?_
      refine t_getfd C h t_37 hu0 (by decide) wf_20 (v := .ref mq) k37_u0_2 fl_X2_21 dX2_widen_61 ?_
      refine t_getfd C h t_37 hmq (by decide) wf_22 (v := .int qmr) k37_mq_2 fl_X2_66 dX2_widen_64 ?_
      refine va_mmin hx hb (hml.trans hl.1.symm) hown (hts _ w_696) (hts _ w_548) (hts _ w_112) (hts _ w_549) (Nat.le_of_ble_eq_true rfl) (Nat.le_of_ble_eq_true rfl) (Nat.le_of_ble_eq_true rfl) (Nat.le_of_ble_eq_true rfl) dX2_widen_67 (i_min iz49 hqmr (lo := (-60)) (hi := 69) (by decide) (fun z50 mz50 iz50 => ?_))
      refine t_put C h t_37 o_37 hrq (by decide) (by decide) (by decide) wf_23 fw_23 (k := 2) rfl flw_X2_66 (Or.inr ⟨_, _, _, rfl, rfl⟩) (v := .int z50) rfl rfl ⟨_, rfl, iz50⟩ dX2_widen_70 (fun f51 H locs h tf51 of51 hq ha_ hn_ hk_ => ?_)
      have k52 := atp.tg k37_u0_3 hq hu0 (by decide)
      have k53 := hk_ 0 _ (by decide) k37_rq_0
      have k54 := hk_ 1 _ (by decide) k37_rq_1
      have k56 := hk_ 3 _ (by decide) k37_rq_3
      have k57 := atp.tg k37_u0_2 hq hu0 (by decide)
      have k58 := atp.tg k37_mq_0 hq hmq (by decide)
      have k59 := atp.tg k37_mq_1 hq hmq (by decide)
      have k60 := atp.tg k37_mq_2 hq hmq (by decide)
      have k61 := atp.tg k37_mq_3 hq hmq (by decide)
      have k62 := atp.tg k37_u0_7 hq hu0 (by decide)
      have k63 := ha_
      exact L73 ls f51 H locs z50 (lv_cons hl 0 rfl (lv_nil hl)) h tf51 of51 iz50 k52 k53 k54 k63 k56 k57 k58 k59 k60 k61 k62 (show g37_rq_0.toInt ≤ rl.toInt ∧ qml.toInt ≤ g37_rq_0.toInt ∧ ((bi &&& 224).toInt ≠ 0 → g37_rq_0.toInt ≤ rl.toInt - 1 ∨ g37_rq_0.toInt ≤ qml.toInt) by omega) (show rr.toInt ≤ z50.toInt ∧ z50.toInt ≤ qmr.toInt ∧ ((bi &&& 14).toInt ≠ 0 → rr.toInt + 1 ≤ z50.toInt ∨ qmr.toInt ≤ z50.toInt) by omega)
  refine lv_aload_n hx hb dX2_widen_0 rfl (lv_at hl 0 rfl) ?_
  refine t_getfd C h t hu0 (by decide) wf_20 (v := .int bi) k_u0_7 fl_X2_92 dX2_widen_1 ?_
  refine lv_sipush (v := 224) hx hb dX2_widen_4 (by decide) ?_
  refine lv_iand hx hb dX2_widen_7 (i_top (iv_and (k := 224) rfl (by decide)) (fun z64 ez64 iz64 => ?_))
  have mmz64 : z64.toInt = (bi &&& 224).toInt := congrArg Int32.toInt ez64
  refine lv_if_eq (tgt := 37) hx hb dX2_widen_8 (by decide) (fun c65 => ?_) (fun c65 => ?_)
  · have c66 : z64.toInt = 0 := congrArg Int32.toInt c65
    have i67 : iv z64 0 0 := iv_Q c66 iz64 (iv_k (x := 0) (k := 0) rfl) (by decide)
    exact L37 ls f s.heap [] rl (lv_cons hl 0 rfl (lv_nil hl)) h t o hrl k_u0_3 k_rq_0 k_rq_1 k_rq_2 k_rq_3 k_u0_2 k_mq_0 k_mq_1 k_mq_2 k_mq_3 k_u0_7 (show rl.toInt ≤ rl.toInt ∧ qml.toInt ≤ rl.toInt ∧ ((bi &&& 224).toInt ≠ 0 → rl.toInt ≤ rl.toInt - 1 ∨ rl.toInt ≤ qml.toInt) by omega)
  · have c68 : z64.toInt ≠ 0 := fun z_ => c65 (Int32.toInt_inj.mp z_)
    have i69 : iv z64 1 224 := iv_Nl c68 iz64 (by decide)
    refine lv_aload_n hx hb dX2_widen_11 rfl (lv_at hl 0 rfl) ?_
    refine t_getfd C h t hu0 (by decide) wf_20 (v := .ref rq) k_u0_3 fl_X2_25 dX2_widen_12 ?_
    refine lv_aload_n hx hb dX2_widen_15 rfl (lv_at hl 0 rfl) ?_
    refine t_getfd C h t hu0 (by decide) wf_20 (v := .ref rq) k_u0_3 fl_X2_25 dX2_widen_16 ?_
    refine t_getfd C h t hrq (by decide) wf_23 (v := .int rl) k_rq_0 fl_X2_60 dX2_widen_19 ?_
    refine lv_iconst (v := 1) hx hb dX2_widen_22 (by decide) ?_
    refine i_subk hx hb dX2_widen_23 hrl (k := 1) rfl (lo := (-61)) (hi := 68) (by decide) (fun z70 ez70 mz70 iz70 => ?_)
    refine lv_aload_n hx hb dX2_widen_24 rfl (lv_at hl 0 rfl) ?_
    refine t_getfd C h t hu0 (by decide) wf_20 (v := .ref mq) k_u0_2 fl_X2_21 dX2_widen_25 ?_
    refine t_getfd C h t hmq (by decide) wf_22 (v := .int qml) k_mq_0 fl_X2_60 dX2_widen_28 ?_
    refine va_mmax hx hb (hml.trans hl.1.symm) hown (hts _ w_695) (hts _ w_453) (hts _ w_112) (hts _ w_454) (Nat.le_of_ble_eq_true rfl) (Nat.le_of_ble_eq_true rfl) (Nat.le_of_ble_eq_true rfl) (Nat.le_of_ble_eq_true rfl) dX2_widen_31 (i_max iz70 hqml (lo := (-60)) (hi := 69) (by decide) (fun z71 mz71 iz71 => ?_))
    refine t_put C h t o hrq (by decide) (by decide) (by decide) wf_23 fw_23 (k := 0) rfl flw_X2_60 (Or.inr ⟨_, _, _, rfl, rfl⟩) (v := .int z71) rfl rfl ⟨_, rfl, iz71⟩ dX2_widen_34 (fun f72 H locs h tf72 of72 hq ha_ hn_ hk_ => ?_)
    have k73 := atp.tg k_u0_3 hq hu0 (by decide)
    have k75 := hk_ 1 _ (by decide) k_rq_1
    have k76 := hk_ 2 _ (by decide) k_rq_2
    have k77 := hk_ 3 _ (by decide) k_rq_3
    have k78 := atp.tg k_u0_2 hq hu0 (by decide)
    have k79 := atp.tg k_mq_0 hq hmq (by decide)
    have k80 := atp.tg k_mq_1 hq hmq (by decide)
    have k81 := atp.tg k_mq_2 hq hmq (by decide)
    have k82 := atp.tg k_mq_3 hq hmq (by decide)
    have k83 := atp.tg k_u0_7 hq hu0 (by decide)
    have k84 := ha_
    exact L37 ls f72 H locs z71 (lv_cons hl 0 rfl (lv_nil hl)) h tf72 of72 iz71 k73 k84 k75 k76 k77 k78 k79 k80 k81 k82 k83 (show z71.toInt ≤ rl.toInt ∧ qml.toInt ≤ z71.toInt ∧ ((bi &&& 224).toInt ≠ 0 → z71.toInt ≤ rl.toInt - 1 ∨ z71.toInt ≤ qml.toInt) by omega)
abbrev rm_s_X2_settled : Room := { frames := 1, cells := 0, slots := 0, locals := 17 }
set_option maxRecDepth 100000 in
set_option maxHeartbeats 4000000 in
theorem s_X2_settled (l : Launch) (D : va_G) (G : Nat → Nat) (b0 : Nat) (τ : Nat → Nat) (f : hM) (t : TI G 9 τ f) (u0 : Nat) (hu0 : τ u0 = 20) (u1 : Int64) (mo : Int32) (hmo : iv mo 0 3) (k_u0_8 : atp f u0 (fd 8 (.int mo))) : mL l yX2_settled cX2_settled 3 rm_s_X2_settled D G b0 f [.ref u0, .long u1] (fun r f1 => TI G 9 τ f1 ∧ Fr [] τ f f1 ∧ (r = stl mo.toInt u1)) := by
  refine met2 (own := RX2) (by decide) rfl (Nat.le_of_ble_eq_true rfl) ?_
  intro p e s m args below meth c ls Q hQ C hr hini hl h
  have hl : lv_has ls 3 [(0, .ref u0), (1, .long u1)] := hl
  obtain ⟨hx, hb, hml, hown, hts, hE0, hlk⟩ := id C
  have o := Fr.rf [] τ f
  refine lv_aload_n hx hb dX2_settled_0 rfl (lv_at hl 0 rfl) ?_
  refine t_getfd C h t hu0 (by decide) wf_20 (v := .int mo) k_u0_8 fl_X2_46 dX2_settled_1 ?_
  refine lv_if_ne (tgt := 13) hx hb dX2_settled_4 (by decide) (fun c1 => ?_) (fun c1 => ?_)
  · have c2 : mo.toInt ≠ 0 := fun z_ => c1 (Int32.toInt_inj.mp z_)
    have i3 : iv mo 1 3 := iv_Nl c2 hmo (by decide)
    refine lv_aload_n hx hb dX2_settled_13 rfl (lv_at hl 0 rfl) ?_
    refine t_getfd C h t hu0 (by decide) wf_20 (v := .int mo) k_u0_8 fl_X2_46 dX2_settled_14 ?_
    refine lv_iconst (v := 3) hx hb dX2_settled_17 (by decide) ?_
    refine lv_icmp_ne (tgt := 29) hx hb dX2_settled_18 (by decide) (fun c6 => ?_) (fun c6 => ?_)
    · have c7 : mo.toInt ≠ 3 := fun z_ => c6 (Int32.toInt_inj.mp z_)
      have i8 : iv mo 1 2 := iv_Nh c7 i3 (by decide)
      refine lv_lload_n hx hb dX2_settled_29 rfl (lv_at hl 1 rfl) ?_
      exact u_lret C h hr hQ (⟨t, o, (by unfold stl; rw [if_neg (by omega), if_neg (by omega)])⟩) (Nat.le_of_ble_eq_true rfl) (Nat.le_of_ble_eq_true rfl) dX2_settled_30
    · have c9 : mo.toInt = 3 := congrArg Int32.toInt c6
      have i10 : iv mo 3 3 := iv_Q c9 i3 (iv_k (x := 3) (k := 3) rfl) (by decide)
      refine lv_lload_n hx hb dX2_settled_21 rfl (lv_at hl 1 rfl) ?_
      refine lv_lconst (v := 1) hx hb dX2_settled_22 (by decide) ?_
      refine va_mmin_long hx hb (hml.trans hl.1.symm) hown (hts _ w_706) (hts _ w_707) (hts _ w_112) (hts _ w_708) (Nat.le_of_ble_eq_true rfl) (Nat.le_of_ble_eq_true rfl) (Nat.le_of_ble_eq_true rfl) (Nat.le_of_ble_eq_true rfl) dX2_settled_23 (lv_topl (fun w11 ew11 => ?_))
      refine lv_goto (tgt := 30) hx hb dX2_settled_26 (by decide) ?_
      exact u_lret C h hr hQ (⟨t, o, (by unfold stl; rw [if_neg (by omega), if_pos (by omega)]; exact ew11)⟩) (Nat.le_of_ble_eq_true rfl) (Nat.le_of_ble_eq_true rfl) dX2_settled_30
  · have c4 : mo.toInt = 0 := congrArg Int32.toInt c1
    have i5 : iv mo 0 0 := iv_Q c4 hmo (iv_k (x := 0) (k := 0) rfl) (by decide)
    refine lv_lload_n hx hb dX2_settled_7 rfl (lv_at hl 1 rfl) ?_
    refine lv_ldc2 (v := 1000003) hx hb hown (hts _ w_705) dX2_settled_8 ?_
    refine lv_lrem hx hb dX2_settled_11 (by decide) (i_topl (lrem_iv (k := 1000003) rfl (by decide) (lo := -1000002) (hi := 1000002) (by decide)) (fun w12 ew12 iw12 => ?_))
    exact u_lret C h hr hQ (⟨t, o, (by unfold stl; rw [if_pos (by omega)]; exact ew12)⟩) (Nat.le_of_ble_eq_true rfl) (Nat.le_of_ble_eq_true rfl) dX2_settled_12
abbrev rm_s_X2_gather : Room := { frames := 2, cells := 0, slots := 0, locals := 39 }
set_option maxRecDepth 100000 in
set_option maxHeartbeats 4000000 in
theorem s_X2_gather (l : Launch) (D : va_G) (G : Nat → Nat) (b0 : Nat) (τ : Nat → Nat) (f : hM) (t : TI G 9 τ f) (u0 : Nat) (hu0 : τ u0 = 20) (nq : Nat) (hnq : τ nq = 21) (k_u0_0 : atp f u0 (fd 0 (.ref nq))) (xq : Nat) (hxq : τ xq = 21) (k_u0_1 : atp f u0 (fd 1 (.ref xq))) (rq : Nat) (hrq : τ rq = 23) (k_u0_3 : atp f u0 (fd 3 (.ref rq))) (rl : Int32) (hrl : iv rl (-60) 69) (k_rq_0 : atp f rq (fd 0 (.int rl))) (rb : Int32) (hrb : iv rb (-60) 69) (k_rq_1 : atp f rq (fd 1 (.int rb))) (rr : Int32) (hrr : iv rr (-60) 69) (k_rq_2 : atp f rq (fd 2 (.int rr))) (rt : Int32) (hrt : iv rt (-60) 69) (k_rq_3 : atp f rq (fd 3 (.int rt))) (sx : Int32) (hsx : iv sx 0 9) (k_u0_9 : atp f u0 (fd 9 (.int sx))) (sy : Int32) (hsy : iv sy 0 9) (k_u0_10 : atp f u0 (fd 10 (.int sy))) (sq : Nat) (hsq : τ sq = 24) (k_u0_4 : atp f u0 (fd 4 (.ref sq))) (oq : Nat) (hoq : τ oq = 25) (k_u0_5 : atp f u0 (fd 5 (.ref oq))) (us : Int32) (hus : iv us 0 8) (k_u0_6 : atp f u0 (fd 6 (.int us))) (mo : Int32) (hmo : iv mo 0 3) (k_u0_8 : atp f u0 (fd 8 (.int mo))) (rn : Nat → Int64) (hRnq : atp f nq (lrw G 15129 rn)) (rx : Nat → Int64) (hRxq : atp f xq (lrw G 15129 rx)) (sh : Nat → Int32) (hRsq : atp f sq (eqc (.inl (G 1, 8, .inl sh)))) (wo : Nat → Int64) (hRoq : atp f oq (lrw G 8 wo)) (hnx : nq ≠ xq)  (hr0 : sx.toInt - 60 ≤ rl.toInt) (hr1 : rr.toInt ≤ sx.toInt + 60) (hr2 : sy.toInt - 60 ≤ rb.toInt) (hr3 : rt.toInt ≤ sy.toInt + 60) : mV l yX2_gather cX2_gather 7 rm_s_X2_gather D G b0 f [.ref u0] (fun f1 => TI G 9 τ f1 ∧ Fr [21] τ f f1 ∧ (∃ rn1 : Nat → Int64, atp f1 nq (lrw G 15129 rn1) ∧ rn1 = rn) ∧ (∃ rx1 : Nat → Int64, atp f1 xq (lrw G 15129 rx1) ∧ (∀ k : Nat, k < 15129 → rx1 k = if inb sx sy rl rb rr rt k then stl mo.toInt (gfd sh wo rn k us.toInt.toNat) else rx k))) := by
  refine met2 (own := RX2) (by decide) rfl (Nat.le_of_ble_eq_true rfl) ?_
  intro p e s m args below meth c ls Q hQ C hr hini hl h
  have hl : lv_has ls 7 [(0, .ref u0)] := hl
  obtain ⟨hx, hb, hml, hown, hts, hE0, hlk⟩ := id C
  have o := Fr.rf [21] τ f
  have L8 : ∀ (n8 : Nat) (ls : Array Slot) (f_8 : hM) (H : Heap) (locs : List Loc) (v8_1 : Int32) (g8_xq_R : Nat → Int64), 70 - v8_1.toInt < (n8 : Int) → lv_has ls 7 [(0, .ref u0), (1, .int v8_1)] → hw D b0 s.heap f_8 H locs → TI G 9 τ f_8 → Fr [21] τ f f_8 → iv v8_1 (-60) 70 → atp f_8 u0 (fd 0 (.ref nq)) → atp f_8 u0 (fd 1 (.ref xq)) → atp f_8 u0 (fd 3 (.ref rq)) → atp f_8 rq (fd 0 (.int rl)) → atp f_8 rq (fd 1 (.int rb)) → atp f_8 rq (fd 2 (.int rr)) → atp f_8 rq (fd 3 (.int rt)) → atp f_8 u0 (fd 9 (.int sx)) → atp f_8 u0 (fd 10 (.int sy)) → atp f_8 u0 (fd 4 (.ref sq)) → atp f_8 u0 (fd 5 (.ref oq)) → atp f_8 u0 (fd 6 (.int us)) → atp f_8 u0 (fd 8 (.int mo)) → atp f_8 nq (lrw G 15129 rn) → atp f_8 xq (lrw G 15129 g8_xq_R) → atp f_8 sq (eqc (.inl (G 1, 8, .inl sh))) → atp f_8 oq (lrw G 8 wo) → rl.toInt ≤ v8_1.toInt → (∀ k : Nat, k < 15129 → g8_xq_R k = if inb sx sy rl rb rr rt k ∧ (k : Int) / 123 + sx.toInt - 61 < v8_1.toInt then stl mo.toInt (gfd sh wo rn k us.toInt.toNat) else rx k) → W p l e rm_s_X2_gather s m args below meth c H locs 0 0 Q (F0 m 8 ls []) := by
    intro n8
    induction n8 with
    | zero => intro ls f_8 H locs v8_1 g8_xq_R hm8 hl h t_8 o_8 iv8_1 k8_u0_0 k8_u0_1 k8_u0_3 k8_rq_0 k8_rq_1 k8_rq_2 k8_rq_3 k8_u0_9 k8_u0_10 k8_u0_4 k8_u0_5 k8_u0_6 k8_u0_8 k8_nq_R k8_xq_R k8_sq_R k8_oq_R hv8_0 hv8_1; exact absurd hm8 (by omega)
    | succ n8 ih8 =>
      intro ls f_8 H locs v8_1 g8_xq_R hm8 hl h t_8 o_8 iv8_1 k8_u0_0 k8_u0_1 k8_u0_3 k8_rq_0 k8_rq_1 k8_rq_2 k8_rq_3 k8_u0_9 k8_u0_10 k8_u0_4 k8_u0_5 k8_u0_6 k8_u0_8 k8_nq_R k8_xq_R k8_sq_R k8_oq_R hv8_0 hv8_1
      have L45 : ∀ (n45 : Nat) (ls : Array Slot) (f_45 : hM) (H : Heap) (locs : List Loc) (v45_2 : Int32) (v45_3 : Int32) (g45_xq_R : Nat → Int64), 15020 - v45_3.toInt < (n45 : Int) → lv_has ls 7 [(0, .ref u0), (1, .int v8_1), (2, .int v45_2), (3, .int v45_3)] → hw D b0 s.heap f_45 H locs → TI G 9 τ f_45 → Fr [21] τ f f_45 → iv v8_1 (-60) 69 → iv v45_2 (-20000) 15004 → iv v45_3 124 15020 → atp f_45 u0 (fd 0 (.ref nq)) → atp f_45 u0 (fd 1 (.ref xq)) → atp f_45 u0 (fd 3 (.ref rq)) → atp f_45 rq (fd 0 (.int rl)) → atp f_45 rq (fd 1 (.int rb)) → atp f_45 rq (fd 2 (.int rr)) → atp f_45 rq (fd 3 (.int rt)) → atp f_45 u0 (fd 9 (.int sx)) → atp f_45 u0 (fd 10 (.int sy)) → atp f_45 u0 (fd 4 (.ref sq)) → atp f_45 u0 (fd 5 (.ref oq)) → atp f_45 u0 (fd 6 (.int us)) → atp f_45 u0 (fd 8 (.int mo)) → atp f_45 nq (lrw G 15129 rn) → atp f_45 xq (lrw G 15129 g45_xq_R) → atp f_45 sq (eqc (.inl (G 1, 8, .inl sh))) → atp f_45 oq (lrw G 8 wo) → (∀ k : Nat, k < 15129 → g45_xq_R k = if inb sx sy rl rb rr rt k ∧ ((k : Int) / 123 + sx.toInt - 61 < v8_1.toInt ∨ ((k : Int) / 123 + sx.toInt - 61 = v8_1.toInt ∧ (k : Int) < v45_3.toInt)) then stl mo.toInt (gfd sh wo rn k us.toInt.toNat) else rx k) → v45_2.toInt = (v8_1.toInt - sx.toInt + 61) * 123 + (rt.toInt - sy.toInt) + 61 → (v8_1.toInt - sx.toInt + 61) * 123 + (rb.toInt - sy.toInt) + 61 ≤ v45_3.toInt ∧ rl.toInt ≤ v8_1.toInt ∧ v8_1.toInt ≤ rr.toInt → W p l e rm_s_X2_gather s m args below meth c H locs 0 0 Q (F0 m 45 ls []) := by
        intro n45
        induction n45 with
        | zero => intro ls f_45 H locs v45_2 v45_3 g45_xq_R hm45 hl h t_45 o_45 jv45_1 iv45_2 iv45_3 k45_u0_0 k45_u0_1 k45_u0_3 k45_rq_0 k45_rq_1 k45_rq_2 k45_rq_3 k45_u0_9 k45_u0_10 k45_u0_4 k45_u0_5 k45_u0_6 k45_u0_8 k45_nq_R k45_xq_R k45_sq_R k45_oq_R hv45_0 hv45_1 hv45_2; exact absurd hm45 (by omega)
        | succ n45 ih45 =>
          intro ls f_45 H locs v45_2 v45_3 g45_xq_R hm45 hl h t_45 o_45 jv45_1 iv45_2 iv45_3 k45_u0_0 k45_u0_1 k45_u0_3 k45_rq_0 k45_rq_1 k45_rq_2 k45_rq_3 k45_u0_9 k45_u0_10 k45_u0_4 k45_u0_5 k45_u0_6 k45_u0_8 k45_nq_R k45_xq_R k45_sq_R k45_oq_R hv45_0 hv45_1 hv45_2
          have L56 : ∀ (n56 : Nat) (ls : Array Slot) (f_56 : hM) (H : Heap) (locs : List Loc) (v56_4 : Int64) (v56_6 : Int32) (g56_xq_R : Nat → Int64), 8 - v56_6.toInt < (n56 : Int) → lv_has ls 7 [(0, .ref u0), (1, .int v8_1), (2, .int v45_2), (3, .int v45_3), (4, .long v56_4), (6, .int v56_6)] → hw D b0 s.heap f_56 H locs → TI G 9 τ f_56 → Fr [21] τ f f_56 → iv v45_2 124 15004 → iv v45_3 124 15004 → iv v56_6 0 8 → atp f_56 u0 (fd 0 (.ref nq)) → atp f_56 u0 (fd 1 (.ref xq)) → atp f_56 u0 (fd 3 (.ref rq)) → atp f_56 rq (fd 0 (.int rl)) → atp f_56 rq (fd 1 (.int rb)) → atp f_56 rq (fd 2 (.int rr)) → atp f_56 rq (fd 3 (.int rt)) → atp f_56 u0 (fd 9 (.int sx)) → atp f_56 u0 (fd 10 (.int sy)) → atp f_56 u0 (fd 4 (.ref sq)) → atp f_56 u0 (fd 5 (.ref oq)) → atp f_56 u0 (fd 6 (.int us)) → atp f_56 u0 (fd 8 (.int mo)) → atp f_56 nq (lrw G 15129 rn) → atp f_56 xq (lrw G 15129 g56_xq_R) → atp f_56 sq (eqc (.inl (G 1, 8, .inl sh))) → atp f_56 oq (lrw G 8 wo) → (v56_4 = gfd sh wo rn v45_3.toInt (Int.toNat v56_6.toInt)) → v56_6.toInt ≤ us.toInt → (∀ k : Nat, k < 15129 → g56_xq_R k = if inb sx sy rl rb rr rt k ∧ ((k : Int) / 123 + sx.toInt - 61 < v8_1.toInt ∨ ((k : Int) / 123 + sx.toInt - 61 = v8_1.toInt ∧ (k : Int) < v45_3.toInt)) then stl mo.toInt (gfd sh wo rn k us.toInt.toNat) else rx k) → v45_2.toInt = (v8_1.toInt - sx.toInt + 61) * 123 + (rt.toInt - sy.toInt) + 61 → (v8_1.toInt - sx.toInt + 61) * 123 + (rb.toInt - sy.toInt) + 61 ≤ v45_3.toInt ∧ rl.toInt ≤ v8_1.toInt ∧ v8_1.toInt ≤ rr.toInt ∧ v45_3.toInt ≤ v45_2.toInt → W p l e rm_s_X2_gather s m args below meth c H locs 0 0 Q (F0 m 56 ls []) := by
            intro n56
            induction n56 with
            | zero => intro ls f_56 H locs v56_4 v56_6 g56_xq_R hm56 hl h t_56 o_56 jv56_2 jv56_3 iv56_6 k56_u0_0 k56_u0_1 k56_u0_3 k56_rq_0 k56_rq_1 k56_rq_2 k56_rq_3 k56_u0_9 k56_u0_10 k56_u0_4 k56_u0_5 k56_u0_6 k56_u0_8 k56_nq_R k56_xq_R k56_sq_R k56_oq_R hv56_0 hv56_1 hv56_2 hv56_3 hv56_4; exact absurd hm56 (by omega)
            | succ n56 ih56 =>
              intro ls f_56 H locs v56_4 v56_6 g56_xq_R hm56 hl h t_56 o_56 jv56_2 jv56_3 iv56_6 k56_u0_0 k56_u0_1 k56_u0_3 k56_rq_0 k56_rq_1 k56_rq_2 k56_rq_3 k56_u0_9 k56_u0_10 k56_u0_4 k56_u0_5 k56_u0_6 k56_u0_8 k56_nq_R k56_xq_R k56_sq_R k56_oq_R hv56_0 hv56_1 hv56_2 hv56_3 hv56_4
              refine lv_iload hx hb dX2_gather_56 (lv_at hl 5 rfl) ?_
              refine lv_aload_n hx hb dX2_gather_58 rfl (lv_at hl 0 rfl) ?_
              refine t_getfd C h t_56 hu0 (by decide) wf_20 (v := .int us) k56_u0_6 fl_X2_85 dX2_gather_59 ?_
              refine lv_icmp_ge (tgt := 98) hx hb dX2_gather_62 (by decide) (fun c1 => ?_) (fun c1 => ?_)
              · have c2 : us.toInt ≤ v56_6.toInt := Int32.le_iff_toInt_le.mp c1
                refine lv_aload_n hx hb dX2_gather_98 rfl (lv_at hl 0 rfl) ?_
                refine t_getfd C h t_56 hu0 (by decide) wf_20 (v := .ref xq) k56_u0_1 fl_X2_15 dX2_gather_99 ?_
                refine lv_iload_n hx hb dX2_gather_102 rfl (lv_at hl 3 rfl) ?_
                refine lv_aload_n hx hb dX2_gather_103 rfl (lv_at hl 0 rfl) ?_
                refine lv_lload hx hb dX2_gather_104 (lv_at hl 4 rfl) ?_
                obtain ⟨_, r6⟩ := t_rec t_56 hu0 (by decide) wf_20
                refine k_l (r_V C h hl (As := [.long v56_4]) (rest := [.int v45_3, .ref xq]) (s_X2_settled l D G b0 τ f_56 t_56 u0 hu0 v56_4 mo hmo k56_u0_8) r6 (Cn := RX2) (T := TX2) (N := 11) rfl rfl mk_X2_settled w_701 w_703 w_16 w_704 ⟨Nat.le_of_ble_eq_true rfl, Nat.le_of_ble_eq_true rfl⟩ rfl (Nat.le_of_ble_eq_true rfl) ⟨Nat.le_of_ble_eq_true rfl, Nat.le_of_ble_eq_true rfl⟩ rfl dX2_gather_106) h (fun r7 f8 H locs p9 h => ?_)
                obtain ⟨tf8, ogf8, x0r7⟩ := p9
                have egf8 := Fr.nil2 ogf8
                subst egf8
                refine e_last C h t_56 o_56 hxq (by decide) (by decide) wf_21 fw_21 k56_xq_R (x := r7) (iv_in jv56_3 (by decide)) dX2_gather_109 (fun R12 f10 erR12 H locs h tf10 of10 hq hn_ k11 => ?_)
                have k13 := atp.tg k56_u0_0 hq hu0 (by decide)
                have k14 := atp.tg k56_u0_1 hq hu0 (by decide)
                have k15 := atp.tg k56_u0_3 hq hu0 (by decide)
                have k16 := atp.tg k56_rq_0 hq hrq (by decide)
                have k17 := atp.tg k56_rq_1 hq hrq (by decide)
                have k18 := atp.tg k56_rq_2 hq hrq (by decide)
                have k19 := atp.tg k56_rq_3 hq hrq (by decide)
                have k20 := atp.tg k56_u0_9 hq hu0 (by decide)
                have k21 := atp.tg k56_u0_10 hq hu0 (by decide)
                have k22 := atp.tg k56_u0_4 hq hu0 (by decide)
                have k23 := atp.tg k56_u0_5 hq hu0 (by decide)
                have k24 := atp.tg k56_u0_6 hq hu0 (by decide)
                have k25 := atp.tg k56_u0_8 hq hu0 (by decide)
                have k26 := atp.tr k56_nq_R (hn_ nq hnx)
                have k28 := atp.tg k56_sq_R hq hsq (by decide)
                have k29 := atp.tg k56_oq_R hq hoq (by decide)
                refine i_inc hx hb dX2_gather_110 hl (k := 3) rfl jv56_3 rfl (lo := 125) (hi := 15005) (by decide) (by decide) (lv' := fun v => [(3, .int v), (0, .ref u0), (1, .int v8_1), (2, .int v45_2), (4, .long v56_4), (6, .int v56_6)]) (fun _ => rfl) (fun z30 ls ez30 mz30 iz30 hl => ?_)
                refine lv_goto (tgt := 45) hx hb dX2_gather_113 (by decide) ?_
                exact ih45 ls f10 H locs v45_2 z30 R12 (show 15020 - z30.toInt < _ by omega) (lv_cons hl 1 rfl (lv_cons hl 2 rfl (lv_cons hl 3 rfl (lv_cons hl 0 rfl (lv_nil hl))))) h tf10 of10 jv45_1 (iv_w jv56_2 (by decide)) (iv_w iz30 (by decide)) k13 k14 k15 k16 k17 k18 k19 k20 k21 k22 k23 k24 k25 k26 k11 k28 k29 (show ∀ k : Nat, k < 15129 → R12 k = if inb sx sy rl rb rr rt k ∧ ((k : Int) / 123 + sx.toInt - 61 < v8_1.toInt ∨ ((k : Int) / 123 + sx.toInt - 61 = v8_1.toInt ∧ (k : Int) < z30.toInt)) then stl mo.toInt (gfd sh wo rn k us.toInt.toNat) else rx k from (fun k hk => by
                    rw [erR12]; by_cases q_ : k = v45_3.toInt.toNat
                    · rw [updL_at q_, if_pos (by omega), x0r7, hv56_0, show (k : Int) = v45_3.toInt by omega, show v56_6.toInt.toNat = us.toInt.toNat by omega]
                    · rw [updL_off q_]; exact (hv56_2 k hk).trans (ite_pq ⟨fun z => by omega, fun z => by omega⟩))) (show v45_2.toInt = (v8_1.toInt - sx.toInt + 61) * 123 + (rt.toInt - sy.toInt) + 61 by omega) (show (v8_1.toInt - sx.toInt + 61) * 123 + (rb.toInt - sy.toInt) + 61 ≤ z30.toInt ∧ rl.toInt ≤ v8_1.toInt ∧ v8_1.toInt ≤ rr.toInt by omega)
              · have c3 : v56_6.toInt < us.toInt := Int32.lt_iff_toInt_lt.mp (iv_nle c1)
                have i4 : iv v56_6 0 7 := iv_Ll c3 iv56_6 hus (by decide)
                have i5 : iv us 1 8 := iv_Lr c3 iv56_6 hus (by decide)
                refine lv_lload hx hb dX2_gather_65 (lv_at hl 4 rfl) ?_
                refine lv_aload_n hx hb dX2_gather_67 rfl (lv_at hl 0 rfl) ?_
                refine t_getfd C h t_56 hu0 (by decide) wf_20 (v := .ref oq) k56_u0_5 fl_X2_32 dX2_gather_68 ?_
                refine lv_iload hx hb dX2_gather_71 (lv_at hl 5 rfl) ?_
                refine e_lald C h t_56 hoq (by decide) wf_25 k56_oq_R (iv_in i4 (by decide)) dX2_gather_73 (fun w31 ew31 => ?_)
                refine lv_aload_n hx hb dX2_gather_74 rfl (lv_at hl 0 rfl) ?_
                refine t_getfd C h t_56 hu0 (by decide) wf_20 (v := .ref nq) k56_u0_0 fl_X2_11 dX2_gather_75 ?_
                refine lv_iload_n hx hb dX2_gather_78 rfl (lv_at hl 3 rfl) ?_
                refine lv_aload_n hx hb dX2_gather_79 rfl (lv_at hl 0 rfl) ?_
                refine t_getfd C h t_56 hu0 (by decide) wf_20 (v := .ref sq) k56_u0_4 fl_X2_28 dX2_gather_80 ?_
                refine lv_iload hx hb dX2_gather_83 (lv_at hl 5 rfl) ?_
                refine e_iald C h t_56 hsq (by decide) wf_24 k56_sq_R (iv_in i4 (by decide)) dX2_gather_85 (fun z32 ez32 iz32 => ?_)
                have mz32 := congrArg Int32.toInt ez32
                refine i_sub hx hb dX2_gather_86 jv56_3 iz32 (lo := 0) (hi := 15128) (by decide) (fun z33 ez33 mz33 iz33 => ?_)
                refine e_lald C h t_56 hnq (by decide) wf_21 k56_nq_R (iv_in iz33 (by decide)) dX2_gather_87 (fun w34 ew34 => ?_)
                refine lv_lmul hx hb dX2_gather_88 (lv_topl (fun w35 ew35 => ?_))
                refine lv_ladd hx hb dX2_gather_89 (lv_topl (fun w36 ew36 => ?_))
                refine lv_lstore (lv' := [(4, .long w36), (0, .ref u0), (1, .int v8_1), (2, .int v45_2), (3, .int v45_3), (6, .int v56_6)]) hx hb dX2_gather_90 hl (by decide) rfl (fun ls hl => ?_)
                refine i_inc hx hb dX2_gather_92 hl (k := 5) rfl i4 rfl (lo := 1) (hi := 8) (by decide) (by decide) (lv' := fun v => [(6, .int v), (4, .long w36), (0, .ref u0), (1, .int v8_1), (2, .int v45_2), (3, .int v45_3)]) (fun _ => rfl) (fun z37 ls ez37 mz37 iz37 hl => ?_)
                refine lv_goto (tgt := 56) hx hb dX2_gather_95 (by decide) ?_
                exact ih56 ls f_56 H locs w36 z37 g56_xq_R (show 8 - z37.toInt < _ by omega) (lv_cons hl 2 rfl (lv_cons hl 3 rfl (lv_cons hl 4 rfl (lv_cons hl 5 rfl (lv_cons hl 1 rfl (lv_cons hl 0 rfl (lv_nil hl))))))) h t_56 o_56 jv56_2 jv56_3 (iv_w iz37 (by decide)) k56_u0_0 k56_u0_1 k56_u0_3 k56_rq_0 k56_rq_1 k56_rq_2 k56_rq_3 k56_u0_9 k56_u0_10 k56_u0_4 k56_u0_5 k56_u0_6 k56_u0_8 k56_nq_R k56_xq_R k56_sq_R k56_oq_R (show w36 = gfd sh wo rn v45_3.toInt (Int.toNat z37.toInt) from (by rw [gfd_s (j := v56_6.toInt) (by omega) (by omega), ← hv56_0, ew36, ew35, ew31, ew34, mz33, ez32])) (show z37.toInt ≤ us.toInt by omega) (show ∀ k : Nat, k < 15129 → g56_xq_R k = if inb sx sy rl rb rr rt k ∧ ((k : Int) / 123 + sx.toInt - 61 < v8_1.toInt ∨ ((k : Int) / 123 + sx.toInt - 61 = v8_1.toInt ∧ (k : Int) < v45_3.toInt)) then stl mo.toInt (gfd sh wo rn k us.toInt.toNat) else rx k from hv56_2) (show v45_2.toInt = (v8_1.toInt - sx.toInt + 61) * 123 + (rt.toInt - sy.toInt) + 61 by omega) (show (v8_1.toInt - sx.toInt + 61) * 123 + (rb.toInt - sy.toInt) + 61 ≤ v45_3.toInt ∧ rl.toInt ≤ v8_1.toInt ∧ v8_1.toInt ≤ rr.toInt ∧ v45_3.toInt ≤ v45_2.toInt by omega)
          refine lv_iload_n hx hb dX2_gather_45 rfl (lv_at hl 3 rfl) ?_
          refine lv_iload_n hx hb dX2_gather_46 rfl (lv_at hl 2 rfl) ?_
          refine lv_icmp_gt (tgt := 116) hx hb dX2_gather_47 (by decide) (fun c38 => ?_) (fun c38 => ?_)
          · have c39 : v45_2.toInt < v45_3.toInt := Int32.lt_iff_toInt_lt.mp c38
            refine i_inc hx hb dX2_gather_116 hl (k := 1) rfl jv45_1 rfl (lo := (-59)) (hi := 70) (by decide) (by decide) (lv' := fun v => [(1, .int v), (0, .ref u0), (2, .int v45_2), (3, .int v45_3)]) (fun _ => rfl) (fun z43 ls ez43 mz43 iz43 hl => ?_)
            refine lv_goto (tgt := 8) hx hb dX2_gather_119 (by decide) ?_
            exact ih8 ls f_45 H locs z43 g45_xq_R (show 70 - z43.toInt < _ by omega) (lv_cons hl 1 rfl (lv_cons hl 0 rfl (lv_nil hl))) h t_45 o_45 (iv_w iz43 (by decide)) k45_u0_0 k45_u0_1 k45_u0_3 k45_rq_0 k45_rq_1 k45_rq_2 k45_rq_3 k45_u0_9 k45_u0_10 k45_u0_4 k45_u0_5 k45_u0_6 k45_u0_8 k45_nq_R k45_xq_R k45_sq_R k45_oq_R (show rl.toInt ≤ z43.toInt by omega) (show ∀ k : Nat, k < 15129 → g45_xq_R k = if inb sx sy rl rb rr rt k ∧ (k : Int) / 123 + sx.toInt - 61 < z43.toInt then stl mo.toInt (gfd sh wo rn k us.toInt.toNat) else rx k from (fun k hk => (hv45_0 k hk).trans (ite_pq ⟨fun z => by omega, fun z => by omega⟩)))
          · have c40 : v45_3.toInt ≤ v45_2.toInt := Int32.le_iff_toInt_le.mp (iv_nlt c38)
            have i41 : iv v45_3 124 15004 := iv_El c40 iv45_3 iv45_2 (by decide)
            have i42 : iv v45_2 124 15004 := iv_Er c40 iv45_3 iv45_2 (by decide)
            refine lv_lconst (v := 0) hx hb dX2_gather_50 (by decide) ?_
            refine lv_lstore (lv' := [(4, .long 0), (0, .ref u0), (1, .int v8_1), (2, .int v45_2), (3, .int v45_3)]) hx hb dX2_gather_51 hl (by decide) rfl (fun ls hl => ?_)
            refine lv_iconst (v := 0) hx hb dX2_gather_53 (by decide) ?_
            refine lv_istore (lv' := [(6, .int 0), (4, .long 0), (0, .ref u0), (1, .int v8_1), (2, .int v45_2), (3, .int v45_3)]) hx hb dX2_gather_54 hl (by decide) rfl (fun ls hl => ?_)
            exact L56 9 ls f_45 H locs 0 0 g45_xq_R (by decide) (lv_cons hl 2 rfl (lv_cons hl 3 rfl (lv_cons hl 4 rfl (lv_cons hl 5 rfl (lv_cons hl 1 rfl (lv_cons hl 0 rfl (lv_nil hl))))))) h t_45 o_45 i42 i41 ⟨by decide, by decide⟩ k45_u0_0 k45_u0_1 k45_u0_3 k45_rq_0 k45_rq_1 k45_rq_2 k45_rq_3 k45_u0_9 k45_u0_10 k45_u0_4 k45_u0_5 k45_u0_6 k45_u0_8 k45_nq_R k45_xq_R k45_sq_R k45_oq_R (show 0 = gfd sh wo rn v45_3.toInt (Int.toNat 0) from (by rfl)) (show 0 ≤ us.toInt by omega) (show ∀ k : Nat, k < 15129 → g45_xq_R k = if inb sx sy rl rb rr rt k ∧ ((k : Int) / 123 + sx.toInt - 61 < v8_1.toInt ∨ ((k : Int) / 123 + sx.toInt - 61 = v8_1.toInt ∧ (k : Int) < v45_3.toInt)) then stl mo.toInt (gfd sh wo rn k us.toInt.toNat) else rx k from hv45_0) (show v45_2.toInt = (v8_1.toInt - sx.toInt + 61) * 123 + (rt.toInt - sy.toInt) + 61 by omega) (show (v8_1.toInt - sx.toInt + 61) * 123 + (rb.toInt - sy.toInt) + 61 ≤ v45_3.toInt ∧ rl.toInt ≤ v8_1.toInt ∧ v8_1.toInt ≤ rr.toInt ∧ v45_3.toInt ≤ v45_2.toInt by omega)
      refine lv_iload_n hx hb dX2_gather_8 rfl (lv_at hl 1 rfl) ?_
      refine lv_aload_n hx hb dX2_gather_9 rfl (lv_at hl 0 rfl) ?_
      refine t_getfd C h t_8 hu0 (by decide) wf_20 (v := .ref rq) k8_u0_3 fl_X2_25 dX2_gather_10 ?_
      refine t_getfd C h t_8 hrq (by decide) wf_23 (v := .int rr) k8_rq_2 fl_X2_66 dX2_gather_13 ?_
      refine lv_icmp_gt (tgt := 122) hx hb dX2_gather_16 (by decide) (fun c44 => ?_) (fun c44 => ?_)
      · have c45 : rr.toInt < v8_1.toInt := Int32.lt_iff_toInt_lt.mp c44
        have i46 : iv v8_1 (-59) 70 := iv_Lr c45 hrr iv8_1 (by decide)
        exact u_vret C h hr hQ (⟨t_8, o_8, ⟨rn, k8_nq_R, rfl⟩, ⟨g8_xq_R, k8_xq_R, (fun k hk => (hv8_1 k hk).trans (ite_pq ⟨fun z => by omega, fun z => by omega⟩))⟩⟩) (Nat.le_of_ble_eq_true rfl) (Nat.le_of_ble_eq_true rfl) dX2_gather_122
      · have c47 : v8_1.toInt ≤ rr.toInt := Int32.le_iff_toInt_le.mp (iv_nlt c44)
        have i48 : iv v8_1 (-60) 69 := iv_El c47 iv8_1 hrr (by decide)
        refine lv_aload_n hx hb dX2_gather_19 rfl (lv_at hl 0 rfl) ?_
        refine lv_iload_n hx hb dX2_gather_20 rfl (lv_at hl 1 rfl) ?_
        refine lv_aload_n hx hb dX2_gather_21 rfl (lv_at hl 0 rfl) ?_
        refine t_getfd C h t_8 hu0 (by decide) wf_20 (v := .ref rq) k8_u0_3 fl_X2_25 dX2_gather_22 ?_
        refine t_getfd C h t_8 hrq (by decide) wf_23 (v := .int rt) k8_rq_3 fl_X2_69 dX2_gather_25 ?_
        obtain ⟨_, r49⟩ := t_rec t_8 hu0 (by decide) wf_20
        refine k_i (r_V C h hl (As := [.int v8_1, .int rt]) (rest := []) (s_X2_cell l D G b0 τ f_8 t_8 u0 hu0 v8_1 (iv_w i48 (by decide)) rt (iv_w hrt (by decide)) sx hsx k8_u0_9 sy hsy k8_u0_10) r49 (Cn := RX2) (T := TX2) (N := 11) rfl rfl mk_X2_cell w_671 w_673 w_12 w_674 ⟨Nat.le_of_ble_eq_true rfl, Nat.le_of_ble_eq_true rfl⟩ rfl (Nat.le_of_ble_eq_true rfl) ⟨Nat.le_of_ble_eq_true rfl, Nat.le_of_ble_eq_true rfl⟩ rfl dX2_gather_28) h (fun r50 f51 H locs p52 h => ?_)
        obtain ⟨ir50, tf51, ogf51, x0r50⟩ := p52
        have egf51 := Fr.nil2 ogf51
        subst egf51
        refine lv_istore_n (lv' := [(2, .int r50), (0, .ref u0), (1, .int v8_1)]) hx hb dX2_gather_31 rfl hl (by decide) rfl (fun ls hl => ?_)
        refine lv_aload_n hx hb dX2_gather_32 rfl (lv_at hl 1 rfl) ?_
        refine lv_iload_n hx hb dX2_gather_33 rfl (lv_at hl 2 rfl) ?_
        refine lv_aload_n hx hb dX2_gather_34 rfl (lv_at hl 1 rfl) ?_
        refine t_getfd C h t_8 hu0 (by decide) wf_20 (v := .ref rq) k8_u0_3 fl_X2_25 dX2_gather_35 ?_
        refine t_getfd C h t_8 hrq (by decide) wf_23 (v := .int rb) k8_rq_1 fl_X2_63 dX2_gather_38 ?_
        obtain ⟨_, r53⟩ := t_rec t_8 hu0 (by decide) wf_20
        refine k_i (r_V C h hl (As := [.int v8_1, .int rb]) (rest := []) (s_X2_cell l D G b0 τ f_8 t_8 u0 hu0 v8_1 (iv_w i48 (by decide)) rb (iv_w hrb (by decide)) sx hsx k8_u0_9 sy hsy k8_u0_10) r53 (Cn := RX2) (T := TX2) (N := 11) rfl rfl mk_X2_cell w_671 w_673 w_12 w_674 ⟨Nat.le_of_ble_eq_true rfl, Nat.le_of_ble_eq_true rfl⟩ rfl (Nat.le_of_ble_eq_true rfl) ⟨Nat.le_of_ble_eq_true rfl, Nat.le_of_ble_eq_true rfl⟩ rfl dX2_gather_41) h (fun r54 f55 H locs p56 h => ?_)
        obtain ⟨ir54, tf55, ogf55, x0r54⟩ := p56
        have egf55 := Fr.nil2 ogf55
        subst egf55
        refine lv_istore_n (lv' := [(3, .int r54), (2, .int r50), (0, .ref u0), (1, .int v8_1)]) hx hb dX2_gather_44 rfl hl (by decide) rfl (fun ls hl => ?_)
        exact L45 15021 ls f_8 H locs r50 r54 g8_xq_R (show 15020 - r54.toInt < _ by omega) (lv_cons hl 2 rfl (lv_cons hl 3 rfl (lv_cons hl 1 rfl (lv_cons hl 0 rfl (lv_nil hl))))) h t_8 o_8 i48 (show iv r50 (-20000) 15004 from by omega) (show iv r54 124 15020 from by omega) k8_u0_0 k8_u0_1 k8_u0_3 k8_rq_0 k8_rq_1 k8_rq_2 k8_rq_3 k8_u0_9 k8_u0_10 k8_u0_4 k8_u0_5 k8_u0_6 k8_u0_8 k8_nq_R k8_xq_R k8_sq_R k8_oq_R (show ∀ k : Nat, k < 15129 → g8_xq_R k = if inb sx sy rl rb rr rt k ∧ ((k : Int) / 123 + sx.toInt - 61 < v8_1.toInt ∨ ((k : Int) / 123 + sx.toInt - 61 = v8_1.toInt ∧ (k : Int) < r54.toInt)) then stl mo.toInt (gfd sh wo rn k us.toInt.toNat) else rx k from (fun k hk => (hv8_1 k hk).trans (ite_pq ⟨fun z => by omega, fun z => by omega⟩))) (show r50.toInt = (v8_1.toInt - sx.toInt + 61) * 123 + (rt.toInt - sy.toInt) + 61 by omega) (show (v8_1.toInt - sx.toInt + 61) * 123 + (rb.toInt - sy.toInt) + 61 ≤ r54.toInt ∧ rl.toInt ≤ v8_1.toInt ∧ v8_1.toInt ≤ rr.toInt by omega)
  refine lv_aload_n hx hb dX2_gather_0 rfl (lv_at hl 0 rfl) ?_
  refine t_getfd C h t hu0 (by decide) wf_20 (v := .ref rq) k_u0_3 fl_X2_25 dX2_gather_1 ?_
  refine t_getfd C h t hrq (by decide) wf_23 (v := .int rl) k_rq_0 fl_X2_60 dX2_gather_4 ?_
  refine lv_istore_n (lv' := [(1, .int rl), (0, .ref u0)]) hx hb dX2_gather_7 rfl hl (by decide) rfl (fun ls hl => ?_)
  exact L8 131 ls f s.heap [] rl rx (show 70 - rl.toInt < _ by omega) (lv_cons hl 1 rfl (lv_cons hl 0 rfl (lv_nil hl))) h t o (iv_w hrl (by decide)) k_u0_0 k_u0_1 k_u0_3 k_rq_0 k_rq_1 k_rq_2 k_rq_3 k_u0_9 k_u0_10 k_u0_4 k_u0_5 k_u0_6 k_u0_8 hRnq hRxq hRsq hRoq (show rl.toInt ≤ rl.toInt by omega) (show ∀ k : Nat, k < 15129 → rx k = if inb sx sy rl rb rr rt k ∧ (k : Int) / 123 + sx.toInt - 61 < rl.toInt then stl mo.toInt (gfd sh wo rn k us.toInt.toNat) else rx k from (fun k hk => (if_neg (fun z => by omega)).symm))
abbrev rm_s_X2_open : Room := { frames := 2, cells := 0, slots := 0, locals := 45 }
set_option maxRecDepth 100000 in
set_option maxHeartbeats 4000000 in
theorem s_X2_open (l : Launch) (D : va_G) (G : Nat → Nat) (b0 : Nat) (τ : Nat → Nat) (f : hM) (t : TI G 9 τ f) (u0 : Nat) (hu0 : τ u0 = 20) (u1 : Nat) (hu1 : τ u1 = 1) (u2 : Int32) (hu2 : iv u2 0 3) (u3 : Int32) (hu3 : iv u3 (-2147483648) 2147483647) (wq : Nat) (hwq : τ wq = 2) (k_u1_0 : atp f u1 (fd 0 (.ref wq))) (sX : Int32) (hsX : iv sX 0 9) (k_u1_1 : atp f u1 (fd 1 (.int sX))) (sY : Int32) (hsY : iv sY 0 9) (k_u1_2 : atp f u1 (fd 2 (.int sY))) (rq mq : Nat) (hGJ : GJ τ f u0 rq mq) (ww : Nat → Int32) (hRwq : atp f wq (eqc (.inl (G 1, 8, .inl ww)))) (vb : Nat → Int32) (vu : Int) (hvb : inrow ww sX sY vb vu)  : mV l yX2_open cX2_open 6 rm_s_X2_open D G b0 f [.ref u0, .ref u1, .int u2, .int u3] (fun f1 => TI G 9 τ f1 ∧ Fr [20, 21, 22, 23, 24, 25, 20007, 20008, 20009, 20010, 20011, 22001, 22002, 22003, 22004, 23001, 23002, 23003, 23004] τ f f1 ∧ (GS G τ f1 u0 rq mq vb vu (fun x_ y_ => decide (insd u3.toInt x_ y_)) u2.toInt 0) ∧ GJ τ f1 u0 rq mq) := by
  refine met2 (own := RX2) (by decide) rfl (Nat.le_of_ble_eq_true rfl) ?_
  intro p e s m args below meth c ls Q hQ C hr hini hl h
  have hl : lv_has ls 6 [(0, .ref u0), (1, .ref u1), (2, .int u2), (3, .int u3)] := hl
  obtain ⟨hx, hb, hml, hown, hts, hE0, hlk⟩ := id C
  have o := Fr.rf [20, 21, 22, 23, 24, 25, 20007, 20008, 20009, 20010, 20011, 22001, 22002, 22003, 22004, 23001, 23002, 23003, 23004] τ f
  obtain ⟨sx, sy, rl, rb, rr, rt, ml, mb, mr, mt, ⟨trq, tmq⟩, ⟨kg3, kg2, ksx, ksy⟩, ⟨krl, krb, krr, krt⟩, ⟨kml, kmb, kmr, kmt⟩, ⟨isx, isy, irl, irb, irr, irt, iml, imb, imr, imt⟩, ⟨gr1, gr2, gr3, gr4⟩, ⟨gr5, gr6, gr7, gr8⟩, hGZ⟩ := hGJ
  obtain ⟨nq, xq, rn, rx, hnx, ⟨hnq, hxq⟩, kg0, kg1, ⟨hRnq, hRxq⟩, zn_, zx_⟩ := GZ.gt t hGZ
  obtain ⟨sq, hsq, kg4⟩ := t_fref (tq := 24) (k := 4) t hu0 (by decide) wf_20 rfl
  obtain ⟨oq, hoq, kg5⟩ := t_fref (tq := 25) (k := 5) t hu0 (by decide) wf_20 rfl
  obtain ⟨sh, hRsq, -⟩ := ia_get t hsq (by decide) wf_24
  obtain ⟨wo, hRoq⟩ := la_get t hoq (by decide) wf_25
  refine lv_aload_n hx hb dX2_open_0 rfl (lv_at hl 0 rfl) ?_
  obtain ⟨_, r1⟩ := t_rec t hu0 (by decide) wf_20
  refine k_v (r_V C h hl (As := []) (rest := []) (s_X2_wipe l D G b0 τ f t u0 hu0 nq hnq kg0 xq hxq kg1 rq trq kg3 rl irl krl rb irb krb rr irr krr rt irt krt sx isx ksx sy isy ksy rn hRnq rx hRxq hnx zn_ zx_ (by omega) (by omega) (by omega) (by omega)) r1 (Cn := RX2) (T := TX2) (N := 11) rfl rfl mk_X2_wipe w_667 w_669 w_11 w_670 ⟨Nat.le_of_ble_eq_true rfl, Nat.le_of_ble_eq_true rfl⟩ rfl (Nat.le_of_ble_eq_true rfl) ⟨Nat.le_of_ble_eq_true rfl, Nat.le_of_ble_eq_true rfl⟩ rfl dX2_open_1) h (fun f3 H locs p4 h => ?_)
  obtain ⟨tf3, ogf3, ⟨rn1_f3, kRnqf3, pRnqf3⟩, ⟨rx1_f3, kRxqf3, pRxqf3⟩⟩ := p4
  have of3 : Fr [20, 21, 22, 23, 24, 25, 20007, 20008, 20009, 20010, 20011, 22001, 22002, 22003, 22004, 23001, 23002, 23003, 23004] τ f f3 := Fr.tr o ogf3 (by decide) (by decide)
  have k5 := atp.fr k_u1_0 ogf3 hu1 (by decide)
  have k6 := atp.fr k_u1_1 ogf3 hu1 (by decide)
  have k7 := atp.fr k_u1_2 ogf3 hu1 (by decide)
  have k8 := atp.fr hRwq ogf3 hwq (by decide)
  have k9 := atp.fr kg3 ogf3 hu0 (by decide)
  have k10 := atp.fr kg2 ogf3 hu0 (by decide)
  have k11 := atp.fr ksx ogf3 hu0 (by decide)
  have k12 := atp.fr ksy ogf3 hu0 (by decide)
  have k13 := atp.fr krl ogf3 trq (by decide)
  have k14 := atp.fr krb ogf3 trq (by decide)
  have k15 := atp.fr krr ogf3 trq (by decide)
  have k16 := atp.fr krt ogf3 trq (by decide)
  have k17 := atp.fr kml ogf3 tmq (by decide)
  have k18 := atp.fr kmb ogf3 tmq (by decide)
  have k19 := atp.fr kmr ogf3 tmq (by decide)
  have k20 := atp.fr kmt ogf3 tmq (by decide)
  have k21 := atp.fr kg0 ogf3 hu0 (by decide)
  have k22 := atp.fr kg1 ogf3 hu0 (by decide)
  have k23 := atp.fr kg4 ogf3 hu0 (by decide)
  have k24 := atp.fr kg5 ogf3 hu0 (by decide)
  have k25 := atp.fr hRsq ogf3 hsq (by decide)
  have k26 := atp.fr hRoq ogf3 hoq (by decide)
  refine lv_aload_n hx hb dX2_open_4 rfl (lv_at hl 0 rfl) ?_
  refine lv_iload_n hx hb dX2_open_5 rfl (lv_at hl 2 rfl) ?_
  refine t_put C h tf3 of3 hu0 (by decide) (by decide) (by decide) wf_20 fw_20 (k := 8) rfl flw_X2_46 (Or.inr ⟨_, _, _, rfl, rfl⟩) (v := .int u2) rfl rfl ⟨_, rfl, hu2⟩ dX2_open_6 (fun f27 H locs h tf27 of27 hq ha_ hn_ hk_ => ?_)
  have k28 := atp.tg k5 hq hu1 (by decide)
  have k29 := atp.tg k6 hq hu1 (by decide)
  have k30 := atp.tg k7 hq hu1 (by decide)
  have k31 := atp.tg k8 hq hwq (by decide)
  have k32 := hk_ 3 _ (by decide) k9
  have k33 := hk_ 2 _ (by decide) k10
  have k34 := hk_ 9 _ (by decide) k11
  have k35 := hk_ 10 _ (by decide) k12
  have k36 := atp.tg k13 hq trq (by decide)
  have k37 := atp.tg k14 hq trq (by decide)
  have k38 := atp.tg k15 hq trq (by decide)
  have k39 := atp.tg k16 hq trq (by decide)
  have k40 := atp.tg k17 hq tmq (by decide)
  have k41 := atp.tg k18 hq tmq (by decide)
  have k42 := atp.tg k19 hq tmq (by decide)
  have k43 := atp.tg k20 hq tmq (by decide)
  have k44 := hk_ 0 _ (by decide) k21
  have k45 := hk_ 1 _ (by decide) k22
  have k46 := hk_ 4 _ (by decide) k23
  have k47 := hk_ 5 _ (by decide) k24
  have k48 := atp.tg k25 hq hsq (by decide)
  have k49 := atp.tg k26 hq hoq (by decide)
  have k50 := atp.tg kRnqf3 hq hnq (by decide)
  have k51 := atp.tg kRxqf3 hq hxq (by decide)
  have k52 := ha_
  refine lv_aload_n hx hb dX2_open_9 rfl (lv_at hl 0 rfl) ?_
  refine lv_aload_n hx hb dX2_open_10 rfl (lv_at hl 1 rfl) ?_
  refine t_getfd C h tf27 hu1 (by decide) wf_1 (v := .int sX) k29 fl_X2_50 dX2_open_11 ?_
  refine t_put C h tf27 of27 hu0 (by decide) (by decide) (by decide) wf_20 fw_20 (k := 9) rfl flw_X2_55 (Or.inr ⟨_, _, _, rfl, rfl⟩) (v := .int sX) rfl rfl ⟨_, rfl, hsX⟩ dX2_open_14 (fun f53 H locs h tf53 of53 hq ha_ hn_ hk_ => ?_)
  have k54 := atp.tg k28 hq hu1 (by decide)
  have k55 := atp.tg k29 hq hu1 (by decide)
  have k56 := atp.tg k30 hq hu1 (by decide)
  have k57 := atp.tg k31 hq hwq (by decide)
  have k58 := hk_ 3 _ (by decide) k32
  have k59 := hk_ 2 _ (by decide) k33
  have k61 := hk_ 10 _ (by decide) k35
  have k62 := atp.tg k36 hq trq (by decide)
  have k63 := atp.tg k37 hq trq (by decide)
  have k64 := atp.tg k38 hq trq (by decide)
  have k65 := atp.tg k39 hq trq (by decide)
  have k66 := atp.tg k40 hq tmq (by decide)
  have k67 := atp.tg k41 hq tmq (by decide)
  have k68 := atp.tg k42 hq tmq (by decide)
  have k69 := atp.tg k43 hq tmq (by decide)
  have k70 := hk_ 0 _ (by decide) k44
  have k71 := hk_ 1 _ (by decide) k45
  have k72 := hk_ 4 _ (by decide) k46
  have k73 := hk_ 5 _ (by decide) k47
  have k74 := atp.tg k48 hq hsq (by decide)
  have k75 := atp.tg k49 hq hoq (by decide)
  have k76 := atp.tg k50 hq hnq (by decide)
  have k77 := atp.tg k51 hq hxq (by decide)
  have k78 := hk_ 8 _ (by decide) k52
  have k79 := ha_
  refine lv_aload_n hx hb dX2_open_17 rfl (lv_at hl 0 rfl) ?_
  refine lv_aload_n hx hb dX2_open_18 rfl (lv_at hl 1 rfl) ?_
  refine t_getfd C h tf53 hu1 (by decide) wf_1 (v := .int sY) k56 fl_X2_56 dX2_open_19 ?_
  refine t_put C h tf53 of53 hu0 (by decide) (by decide) (by decide) wf_20 fw_20 (k := 10) rfl flw_X2_59 (Or.inr ⟨_, _, _, rfl, rfl⟩) (v := .int sY) rfl rfl ⟨_, rfl, hsY⟩ dX2_open_22 (fun f80 H locs h tf80 of80 hq ha_ hn_ hk_ => ?_)
  have k81 := atp.tg k54 hq hu1 (by decide)
  have k82 := atp.tg k55 hq hu1 (by decide)
  have k83 := atp.tg k56 hq hu1 (by decide)
  have k84 := atp.tg k57 hq hwq (by decide)
  have k85 := hk_ 3 _ (by decide) k58
  have k86 := hk_ 2 _ (by decide) k59
  have k88 := atp.tg k62 hq trq (by decide)
  have k89 := atp.tg k63 hq trq (by decide)
  have k90 := atp.tg k64 hq trq (by decide)
  have k91 := atp.tg k65 hq trq (by decide)
  have k92 := atp.tg k66 hq tmq (by decide)
  have k93 := atp.tg k67 hq tmq (by decide)
  have k94 := atp.tg k68 hq tmq (by decide)
  have k95 := atp.tg k69 hq tmq (by decide)
  have k96 := hk_ 0 _ (by decide) k70
  have k97 := hk_ 1 _ (by decide) k71
  have k98 := hk_ 4 _ (by decide) k72
  have k99 := hk_ 5 _ (by decide) k73
  have k100 := atp.tg k74 hq hsq (by decide)
  have k101 := atp.tg k75 hq hoq (by decide)
  have k102 := atp.tg k76 hq hnq (by decide)
  have k103 := atp.tg k77 hq hxq (by decide)
  have k104 := hk_ 8 _ (by decide) k78
  have k105 := hk_ 9 _ (by decide) k79
  have k106 := ha_
  refine lv_iload_n hx hb dX2_open_25 rfl (lv_at hl 3 rfl) ?_
  refine lv_if_eq (tgt := 34) hx hb dX2_open_26 (by decide) (fun c107 => ?_) (fun c107 => ?_)
  · have c108 : u3.toInt = 0 := congrArg Int32.toInt c107
    have i109 : iv u3 0 0 := iv_Q c108 hu3 (iv_k (x := 0) (k := 0) rfl) (by decide)
    refine lv_iconst (v := 1) hx hb dX2_open_34 (by decide) ?_
    refine lv_goto (tgt := 39) hx hb dX2_open_35 (by decide) ?_
    refine lv_istore (lv' := [(4, .int 1), (0, .ref u0), (1, .ref u1), (2, .int u2), (3, .int u3)]) hx hb dX2_open_39 hl (by decide) rfl (fun ls hl => ?_)
    refine lv_iload_n hx hb dX2_open_41 rfl (lv_at hl 4 rfl) ?_
    refine lv_if_eq (tgt := 50) hx hb dX2_open_42 (by decide) (fun c111 => ?_) (fun c111 => ?_)
    · have c112 : u3.toInt = 0 := congrArg Int32.toInt c111
      refine lv_iconst (v := 1) hx hb dX2_open_50 (by decide) ?_
      refine lv_goto (tgt := 55) hx hb dX2_open_51 (by decide) ?_
      refine lv_istore (lv' := [(5, .int 1), (4, .int 1), (0, .ref u0), (1, .ref u1), (2, .int u2), (3, .int u3)]) hx hb dX2_open_55 hl (by decide) rfl (fun ls hl => ?_)
      refine lv_aload_n hx hb dX2_open_57 rfl (lv_at hl 2 rfl) ?_
      refine t_getfd C h tf80 hu0 (by decide) wf_20 (v := .ref mq) k86 fl_X2_21 dX2_open_58 ?_
      refine lv_iload hx hb dX2_open_61 (lv_at hl 1 rfl) ?_
      refine lv_if_eq (tgt := 70) hx hb dX2_open_63 (by decide) (fun c114 => ?_) (fun c114 => ?_)
      · exact absurd c114 (by decide)
      · refine lv_iconst (v := 0) hx hb dX2_open_66 (by decide) ?_
        refine lv_goto (tgt := 77) hx hb dX2_open_67 (by decide) ?_
        refine t_put C h tf80 of80 tmq (by decide) (by decide) (by decide) wf_22 fw_22 (k := 0) rfl flw_X2_60 (Or.inr ⟨_, _, _, rfl, rfl⟩) (v := .int 0) rfl rfl ⟨_, rfl, ⟨by decide, by decide⟩⟩ dX2_open_77 (fun f117 H locs h tf117 of117 hq ha_ hn_ hk_ => ?_)
        have k118 := atp.tg k81 hq hu1 (by decide)
        have k119 := atp.tg k82 hq hu1 (by decide)
        have k120 := atp.tg k83 hq hu1 (by decide)
        have k121 := atp.tg k84 hq hwq (by decide)
        have k122 := atp.tg k85 hq hu0 (by decide)
        have k123 := atp.tg k86 hq hu0 (by decide)
        have k124 := atp.tg k88 hq trq (by decide)
        have k125 := atp.tg k89 hq trq (by decide)
        have k126 := atp.tg k90 hq trq (by decide)
        have k127 := atp.tg k91 hq trq (by decide)
        have k129 := hk_ 1 _ (by decide) k93
        have k130 := hk_ 2 _ (by decide) k94
        have k131 := hk_ 3 _ (by decide) k95
        have k132 := atp.tg k96 hq hu0 (by decide)
        have k133 := atp.tg k97 hq hu0 (by decide)
        have k134 := atp.tg k98 hq hu0 (by decide)
        have k135 := atp.tg k99 hq hu0 (by decide)
        have k136 := atp.tg k100 hq hsq (by decide)
        have k137 := atp.tg k101 hq hoq (by decide)
        have k138 := atp.tg k102 hq hnq (by decide)
        have k139 := atp.tg k103 hq hxq (by decide)
        have k140 := atp.tg k104 hq hu0 (by decide)
        have k141 := atp.tg k105 hq hu0 (by decide)
        have k142 := atp.tg k106 hq hu0 (by decide)
        have k143 := ha_
        refine lv_aload_n hx hb dX2_open_80 rfl (lv_at hl 2 rfl) ?_
        refine t_getfd C h tf117 hu0 (by decide) wf_20 (v := .ref mq) k123 fl_X2_21 dX2_open_81 ?_
        refine lv_iload hx hb dX2_open_84 (lv_at hl 0 rfl) ?_
        refine lv_if_eq (tgt := 93) hx hb dX2_open_86 (by decide) (fun c144 => ?_) (fun c144 => ?_)
        · exact absurd c144 (by decide)
        · refine lv_iconst (v := 0) hx hb dX2_open_89 (by decide) ?_
          refine lv_goto (tgt := 100) hx hb dX2_open_90 (by decide) ?_
          refine t_put C h tf117 of117 tmq (by decide) (by decide) (by decide) wf_22 fw_22 (k := 1) rfl flw_X2_63 (Or.inr ⟨_, _, _, rfl, rfl⟩) (v := .int 0) rfl rfl ⟨_, rfl, ⟨by decide, by decide⟩⟩ dX2_open_100 (fun f147 H locs h tf147 of147 hq ha_ hn_ hk_ => ?_)
          have k148 := atp.tg k118 hq hu1 (by decide)
          have k149 := atp.tg k119 hq hu1 (by decide)
          have k150 := atp.tg k120 hq hu1 (by decide)
          have k151 := atp.tg k121 hq hwq (by decide)
          have k152 := atp.tg k122 hq hu0 (by decide)
          have k153 := atp.tg k123 hq hu0 (by decide)
          have k154 := atp.tg k124 hq trq (by decide)
          have k155 := atp.tg k125 hq trq (by decide)
          have k156 := atp.tg k126 hq trq (by decide)
          have k157 := atp.tg k127 hq trq (by decide)
          have k159 := hk_ 2 _ (by decide) k130
          have k160 := hk_ 3 _ (by decide) k131
          have k161 := atp.tg k132 hq hu0 (by decide)
          have k162 := atp.tg k133 hq hu0 (by decide)
          have k163 := atp.tg k134 hq hu0 (by decide)
          have k164 := atp.tg k135 hq hu0 (by decide)
          have k165 := atp.tg k136 hq hsq (by decide)
          have k166 := atp.tg k137 hq hoq (by decide)
          have k167 := atp.tg k138 hq hnq (by decide)
          have k168 := atp.tg k139 hq hxq (by decide)
          have k169 := atp.tg k140 hq hu0 (by decide)
          have k170 := atp.tg k141 hq hu0 (by decide)
          have k171 := atp.tg k142 hq hu0 (by decide)
          have k172 := hk_ 0 _ (by decide) k143
          have k173 := ha_
          refine lv_aload_n hx hb dX2_open_103 rfl (lv_at hl 2 rfl) ?_
          refine t_getfd C h tf147 hu0 (by decide) wf_20 (v := .ref mq) k153 fl_X2_21 dX2_open_104 ?_
          refine lv_aload_n hx hb dX2_open_107 rfl (lv_at hl 2 rfl) ?_
          refine t_getfd C h tf147 hu0 (by decide) wf_20 (v := .int sX) k170 fl_X2_55 dX2_open_108 ?_
          refine lv_bipush (v := 60) hx hb dX2_open_111 (by decide) ?_
          refine i_addk hx hb dX2_open_113 hsX (k := 60) rfl (lo := 60) (hi := 69) (by decide) (fun z174 ez174 mz174 iz174 => ?_)
          refine t_put C h tf147 of147 tmq (by decide) (by decide) (by decide) wf_22 fw_22 (k := 2) rfl flw_X2_66 (Or.inr ⟨_, _, _, rfl, rfl⟩) (v := .int z174) rfl rfl ⟨_, rfl, (iv_w iz174 (by decide))⟩ dX2_open_114 (fun f175 H locs h tf175 of175 hq ha_ hn_ hk_ => ?_)
          have k176 := atp.tg k148 hq hu1 (by decide)
          have k177 := atp.tg k149 hq hu1 (by decide)
          have k178 := atp.tg k150 hq hu1 (by decide)
          have k179 := atp.tg k151 hq hwq (by decide)
          have k180 := atp.tg k152 hq hu0 (by decide)
          have k181 := atp.tg k153 hq hu0 (by decide)
          have k182 := atp.tg k154 hq trq (by decide)
          have k183 := atp.tg k155 hq trq (by decide)
          have k184 := atp.tg k156 hq trq (by decide)
          have k185 := atp.tg k157 hq trq (by decide)
          have k187 := hk_ 3 _ (by decide) k160
          have k188 := atp.tg k161 hq hu0 (by decide)
          have k189 := atp.tg k162 hq hu0 (by decide)
          have k190 := atp.tg k163 hq hu0 (by decide)
          have k191 := atp.tg k164 hq hu0 (by decide)
          have k192 := atp.tg k165 hq hsq (by decide)
          have k193 := atp.tg k166 hq hoq (by decide)
          have k194 := atp.tg k167 hq hnq (by decide)
          have k195 := atp.tg k168 hq hxq (by decide)
          have k196 := atp.tg k169 hq hu0 (by decide)
          have k197 := atp.tg k170 hq hu0 (by decide)
          have k198 := atp.tg k171 hq hu0 (by decide)
          have k199 := hk_ 0 _ (by decide) k172
          have k200 := hk_ 1 _ (by decide) k173
          have k201 := ha_
          refine lv_aload_n hx hb dX2_open_117 rfl (lv_at hl 2 rfl) ?_
          refine t_getfd C h tf175 hu0 (by decide) wf_20 (v := .ref mq) k181 fl_X2_21 dX2_open_118 ?_
          refine lv_aload_n hx hb dX2_open_121 rfl (lv_at hl 2 rfl) ?_
          refine t_getfd C h tf175 hu0 (by decide) wf_20 (v := .int sY) k198 fl_X2_59 dX2_open_122 ?_
          refine lv_bipush (v := 60) hx hb dX2_open_125 (by decide) ?_
          refine i_addk hx hb dX2_open_127 hsY (k := 60) rfl (lo := 60) (hi := 69) (by decide) (fun z202 ez202 mz202 iz202 => ?_)
          refine t_put C h tf175 of175 tmq (by decide) (by decide) (by decide) wf_22 fw_22 (k := 3) rfl flw_X2_69 (Or.inr ⟨_, _, _, rfl, rfl⟩) (v := .int z202) rfl rfl ⟨_, rfl, (iv_w iz202 (by decide))⟩ dX2_open_128 (fun f203 H locs h tf203 of203 hq ha_ hn_ hk_ => ?_)
          have k204 := atp.tg k176 hq hu1 (by decide)
          have k205 := atp.tg k177 hq hu1 (by decide)
          have k206 := atp.tg k178 hq hu1 (by decide)
          have k207 := atp.tg k179 hq hwq (by decide)
          have k208 := atp.tg k180 hq hu0 (by decide)
          have k209 := atp.tg k181 hq hu0 (by decide)
          have k210 := atp.tg k182 hq trq (by decide)
          have k211 := atp.tg k183 hq trq (by decide)
          have k212 := atp.tg k184 hq trq (by decide)
          have k213 := atp.tg k185 hq trq (by decide)
          have k215 := atp.tg k188 hq hu0 (by decide)
          have k216 := atp.tg k189 hq hu0 (by decide)
          have k217 := atp.tg k190 hq hu0 (by decide)
          have k218 := atp.tg k191 hq hu0 (by decide)
          have k219 := atp.tg k192 hq hsq (by decide)
          have k220 := atp.tg k193 hq hoq (by decide)
          have k221 := atp.tg k194 hq hnq (by decide)
          have k222 := atp.tg k195 hq hxq (by decide)
          have k223 := atp.tg k196 hq hu0 (by decide)
          have k224 := atp.tg k197 hq hu0 (by decide)
          have k225 := atp.tg k198 hq hu0 (by decide)
          have k226 := hk_ 0 _ (by decide) k199
          have k227 := hk_ 1 _ (by decide) k200
          have k228 := hk_ 2 _ (by decide) k201
          have k229 := ha_
          refine lv_aload_n hx hb dX2_open_131 rfl (lv_at hl 2 rfl) ?_
          refine t_getfd C h tf203 hu0 (by decide) wf_20 (v := .ref rq) k208 fl_X2_25 dX2_open_132 ?_
          refine lv_aload_n hx hb dX2_open_135 rfl (lv_at hl 2 rfl) ?_
          refine t_getfd C h tf203 hu0 (by decide) wf_20 (v := .int sX) k224 fl_X2_55 dX2_open_136 ?_
          refine t_put C h tf203 of203 trq (by decide) (by decide) (by decide) wf_23 fw_23 (k := 0) rfl flw_X2_60 (Or.inr ⟨_, _, _, rfl, rfl⟩) (v := .int sX) rfl rfl ⟨_, rfl, (iv_w hsX (by decide))⟩ dX2_open_139 (fun f230 H locs h tf230 of230 hq ha_ hn_ hk_ => ?_)
          have k231 := atp.tg k204 hq hu1 (by decide)
          have k232 := atp.tg k205 hq hu1 (by decide)
          have k233 := atp.tg k206 hq hu1 (by decide)
          have k234 := atp.tg k207 hq hwq (by decide)
          have k235 := atp.tg k208 hq hu0 (by decide)
          have k236 := atp.tg k209 hq hu0 (by decide)
          have k238 := hk_ 1 _ (by decide) k211
          have k239 := hk_ 2 _ (by decide) k212
          have k240 := hk_ 3 _ (by decide) k213
          have k241 := atp.tg k215 hq hu0 (by decide)
          have k242 := atp.tg k216 hq hu0 (by decide)
          have k243 := atp.tg k217 hq hu0 (by decide)
          have k244 := atp.tg k218 hq hu0 (by decide)
          have k245 := atp.tg k219 hq hsq (by decide)
          have k246 := atp.tg k220 hq hoq (by decide)
          have k247 := atp.tg k221 hq hnq (by decide)
          have k248 := atp.tg k222 hq hxq (by decide)
          have k249 := atp.tg k223 hq hu0 (by decide)
          have k250 := atp.tg k224 hq hu0 (by decide)
          have k251 := atp.tg k225 hq hu0 (by decide)
          have k252 := atp.tg k226 hq tmq (by decide)
          have k253 := atp.tg k227 hq tmq (by decide)
          have k254 := atp.tg k228 hq tmq (by decide)
          have k255 := atp.tg k229 hq tmq (by decide)
          have k256 := ha_
          refine lv_aload_n hx hb dX2_open_142 rfl (lv_at hl 2 rfl) ?_
          refine t_getfd C h tf230 hu0 (by decide) wf_20 (v := .ref rq) k235 fl_X2_25 dX2_open_143 ?_
          refine lv_aload_n hx hb dX2_open_146 rfl (lv_at hl 2 rfl) ?_
          refine t_getfd C h tf230 hu0 (by decide) wf_20 (v := .int sY) k251 fl_X2_59 dX2_open_147 ?_
          refine t_put C h tf230 of230 trq (by decide) (by decide) (by decide) wf_23 fw_23 (k := 1) rfl flw_X2_63 (Or.inr ⟨_, _, _, rfl, rfl⟩) (v := .int sY) rfl rfl ⟨_, rfl, (iv_w hsY (by decide))⟩ dX2_open_150 (fun f257 H locs h tf257 of257 hq ha_ hn_ hk_ => ?_)
          have k258 := atp.tg k231 hq hu1 (by decide)
          have k259 := atp.tg k232 hq hu1 (by decide)
          have k260 := atp.tg k233 hq hu1 (by decide)
          have k261 := atp.tg k234 hq hwq (by decide)
          have k262 := atp.tg k235 hq hu0 (by decide)
          have k263 := atp.tg k236 hq hu0 (by decide)
          have k265 := hk_ 2 _ (by decide) k239
          have k266 := hk_ 3 _ (by decide) k240
          have k267 := atp.tg k241 hq hu0 (by decide)
          have k268 := atp.tg k242 hq hu0 (by decide)
          have k269 := atp.tg k243 hq hu0 (by decide)
          have k270 := atp.tg k244 hq hu0 (by decide)
          have k271 := atp.tg k245 hq hsq (by decide)
          have k272 := atp.tg k246 hq hoq (by decide)
          have k273 := atp.tg k247 hq hnq (by decide)
          have k274 := atp.tg k248 hq hxq (by decide)
          have k275 := atp.tg k249 hq hu0 (by decide)
          have k276 := atp.tg k250 hq hu0 (by decide)
          have k277 := atp.tg k251 hq hu0 (by decide)
          have k278 := atp.tg k252 hq tmq (by decide)
          have k279 := atp.tg k253 hq tmq (by decide)
          have k280 := atp.tg k254 hq tmq (by decide)
          have k281 := atp.tg k255 hq tmq (by decide)
          have k282 := hk_ 0 _ (by decide) k256
          have k283 := ha_
          refine lv_aload_n hx hb dX2_open_153 rfl (lv_at hl 2 rfl) ?_
          refine t_getfd C h tf257 hu0 (by decide) wf_20 (v := .ref rq) k262 fl_X2_25 dX2_open_154 ?_
          refine lv_aload_n hx hb dX2_open_157 rfl (lv_at hl 2 rfl) ?_
          refine t_getfd C h tf257 hu0 (by decide) wf_20 (v := .int sX) k276 fl_X2_55 dX2_open_158 ?_
          refine t_put C h tf257 of257 trq (by decide) (by decide) (by decide) wf_23 fw_23 (k := 2) rfl flw_X2_66 (Or.inr ⟨_, _, _, rfl, rfl⟩) (v := .int sX) rfl rfl ⟨_, rfl, (iv_w hsX (by decide))⟩ dX2_open_161 (fun f284 H locs h tf284 of284 hq ha_ hn_ hk_ => ?_)
          have k285 := atp.tg k258 hq hu1 (by decide)
          have k286 := atp.tg k259 hq hu1 (by decide)
          have k287 := atp.tg k260 hq hu1 (by decide)
          have k288 := atp.tg k261 hq hwq (by decide)
          have k289 := atp.tg k262 hq hu0 (by decide)
          have k290 := atp.tg k263 hq hu0 (by decide)
          have k292 := hk_ 3 _ (by decide) k266
          have k293 := atp.tg k267 hq hu0 (by decide)
          have k294 := atp.tg k268 hq hu0 (by decide)
          have k295 := atp.tg k269 hq hu0 (by decide)
          have k296 := atp.tg k270 hq hu0 (by decide)
          have k297 := atp.tg k271 hq hsq (by decide)
          have k298 := atp.tg k272 hq hoq (by decide)
          have k299 := atp.tg k273 hq hnq (by decide)
          have k300 := atp.tg k274 hq hxq (by decide)
          have k301 := atp.tg k275 hq hu0 (by decide)
          have k302 := atp.tg k276 hq hu0 (by decide)
          have k303 := atp.tg k277 hq hu0 (by decide)
          have k304 := atp.tg k278 hq tmq (by decide)
          have k305 := atp.tg k279 hq tmq (by decide)
          have k306 := atp.tg k280 hq tmq (by decide)
          have k307 := atp.tg k281 hq tmq (by decide)
          have k308 := hk_ 0 _ (by decide) k282
          have k309 := hk_ 1 _ (by decide) k283
          have k310 := ha_
          refine lv_aload_n hx hb dX2_open_164 rfl (lv_at hl 2 rfl) ?_
          refine t_getfd C h tf284 hu0 (by decide) wf_20 (v := .ref rq) k289 fl_X2_25 dX2_open_165 ?_
          refine lv_aload_n hx hb dX2_open_168 rfl (lv_at hl 2 rfl) ?_
          refine t_getfd C h tf284 hu0 (by decide) wf_20 (v := .int sY) k303 fl_X2_59 dX2_open_169 ?_
          refine t_put C h tf284 of284 trq (by decide) (by decide) (by decide) wf_23 fw_23 (k := 3) rfl flw_X2_69 (Or.inr ⟨_, _, _, rfl, rfl⟩) (v := .int sY) rfl rfl ⟨_, rfl, (iv_w hsY (by decide))⟩ dX2_open_172 (fun f311 H locs h tf311 of311 hq ha_ hn_ hk_ => ?_)
          have k312 := atp.tg k285 hq hu1 (by decide)
          have k313 := atp.tg k286 hq hu1 (by decide)
          have k314 := atp.tg k287 hq hu1 (by decide)
          have k315 := atp.tg k288 hq hwq (by decide)
          have k316 := atp.tg k289 hq hu0 (by decide)
          have k317 := atp.tg k290 hq hu0 (by decide)
          have k319 := atp.tg k293 hq hu0 (by decide)
          have k320 := atp.tg k294 hq hu0 (by decide)
          have k321 := atp.tg k295 hq hu0 (by decide)
          have k322 := atp.tg k296 hq hu0 (by decide)
          have k323 := atp.tg k297 hq hsq (by decide)
          have k324 := atp.tg k298 hq hoq (by decide)
          have k325 := atp.tg k299 hq hnq (by decide)
          have k326 := atp.tg k300 hq hxq (by decide)
          have k327 := atp.tg k301 hq hu0 (by decide)
          have k328 := atp.tg k302 hq hu0 (by decide)
          have k329 := atp.tg k303 hq hu0 (by decide)
          have k330 := atp.tg k304 hq tmq (by decide)
          have k331 := atp.tg k305 hq tmq (by decide)
          have k332 := atp.tg k306 hq tmq (by decide)
          have k333 := atp.tg k307 hq tmq (by decide)
          have k334 := hk_ 0 _ (by decide) k308
          have k335 := hk_ 1 _ (by decide) k309
          have k336 := hk_ 2 _ (by decide) k310
          have k337 := ha_
          refine lv_aload_n hx hb dX2_open_175 rfl (lv_at hl 2 rfl) ?_
          refine lv_aload_n hx hb dX2_open_176 rfl (lv_at hl 3 rfl) ?_
          obtain ⟨_, r338⟩ := t_rec tf311 hu0 (by decide) wf_20
          refine k_v (r_V C h hl (As := [.ref u1]) (rest := []) (s_X2_takeSteps l D G b0 τ f311 tf311 u0 hu0 u1 hu1 sq hsq k321 oq hoq k322 u2 hu2 k327 wq hwq k312 sh k323 wo k324 ww k315) r338 (Cn := RX2) (T := TX2) (N := 11) rfl rfl mk_X2_takeSteps w_675 w_677 w_13 w_678 ⟨Nat.le_of_ble_eq_true rfl, Nat.le_of_ble_eq_true rfl⟩ rfl (Nat.le_of_ble_eq_true rfl) ⟨Nat.le_of_ble_eq_true rfl, Nat.le_of_ble_eq_true rfl⟩ rfl dX2_open_177) h (fun f340 H locs p341 h => ?_)
          obtain ⟨tf340, ogf340, ⟨us_f340, bi_f340, sh1_f340, wo1_f340, ⟨kpu0_6f340, ipu0_6f340⟩, ⟨kpu0_7f340, ipu0_7f340⟩, kRsqf340, kRoqf340, jtf340⟩⟩ := p341
          have of340 : Fr [20, 21, 22, 23, 24, 25, 20007, 20008, 20009, 20010, 20011, 22001, 22002, 22003, 22004, 23001, 23002, 23003, 23004] τ f f340 := Fr.tr of311 ogf340 (by decide) (by decide)
          have k342 := atp.fr k312 ogf340 hu1 (by decide)
          have k343 := atp.fr k313 ogf340 hu1 (by decide)
          have k344 := atp.fr k314 ogf340 hu1 (by decide)
          have k345 := atp.fr k315 ogf340 hwq (by decide)
          have k346 := atp.fk k316 ogf340 hu0 (by decide) (by decide)
          have k347 := atp.fk k317 ogf340 hu0 (by decide) (by decide)
          have k348 := atp.fk k319 ogf340 hu0 (by decide) (by decide)
          have k349 := atp.fk k320 ogf340 hu0 (by decide) (by decide)
          have k350 := atp.fk k321 ogf340 hu0 (by decide) (by decide)
          have k351 := atp.fk k322 ogf340 hu0 (by decide) (by decide)
          have k352 := atp.fr k325 ogf340 hnq (by decide)
          have k353 := atp.fr k326 ogf340 hxq (by decide)
          have k354 := atp.fk k327 ogf340 hu0 (by decide) (by decide)
          have k355 := atp.fk k328 ogf340 hu0 (by decide) (by decide)
          have k356 := atp.fk k329 ogf340 hu0 (by decide) (by decide)
          have k357 := atp.fr k330 ogf340 tmq (by decide)
          have k358 := atp.fr k331 ogf340 tmq (by decide)
          have k359 := atp.fr k332 ogf340 tmq (by decide)
          have k360 := atp.fr k333 ogf340 tmq (by decide)
          have k361 := atp.fr k334 ogf340 trq (by decide)
          have k362 := atp.fr k335 ogf340 trq (by decide)
          have k363 := atp.fr k336 ogf340 trq (by decide)
          have k364 := atp.fr k337 ogf340 trq (by decide)
          refine lv_aload_n hx hb dX2_open_180 rfl (lv_at hl 2 rfl) ?_
          refine t_getfd C h tf340 hu0 (by decide) wf_20 (v := .ref nq) k348 fl_X2_11 dX2_open_181 ?_
          refine lv_aload_n hx hb dX2_open_184 rfl (lv_at hl 2 rfl) ?_
          refine lv_aload_n hx hb dX2_open_185 rfl (lv_at hl 2 rfl) ?_
          refine t_getfd C h tf340 hu0 (by decide) wf_20 (v := .int sX) k355 fl_X2_55 dX2_open_186 ?_
          refine lv_aload_n hx hb dX2_open_189 rfl (lv_at hl 2 rfl) ?_
          refine t_getfd C h tf340 hu0 (by decide) wf_20 (v := .int sY) k356 fl_X2_59 dX2_open_190 ?_
          obtain ⟨_, r365⟩ := t_rec tf340 hu0 (by decide) wf_20
          refine k_i (r_V C h hl (As := [.int sX, .int sY]) (rest := [.ref nq]) (s_X2_cell l D G b0 τ f340 tf340 u0 hu0 sX (iv_w hsX (by decide)) sY (iv_w hsY (by decide)) sX hsX k355 sY hsY k356) r365 (Cn := RX2) (T := TX2) (N := 11) rfl rfl mk_X2_cell w_671 w_673 w_12 w_674 ⟨Nat.le_of_ble_eq_true rfl, Nat.le_of_ble_eq_true rfl⟩ rfl (Nat.le_of_ble_eq_true rfl) ⟨Nat.le_of_ble_eq_true rfl, Nat.le_of_ble_eq_true rfl⟩ rfl dX2_open_193) h (fun r366 f367 H locs p368 h => ?_)
          obtain ⟨ir366, tf367, ogf367, x0r366⟩ := p368
          have egf367 := Fr.nil2 ogf367
          subst egf367
          refine lv_lconst (v := 1) hx hb dX2_open_196 (by decide) ?_
          refine e_last C h tf340 of340 hnq (by decide) (by decide) wf_21 fw_21 k352 (x := 1) (ix_o (by omega)) dX2_open_197 (fun R371 f369 erR371 H locs h tf369 of369 hq hn_ k370 => ?_)
          have k372 := atp.tg k342 hq hu1 (by decide)
          have k373 := atp.tg k343 hq hu1 (by decide)
          have k374 := atp.tg k344 hq hu1 (by decide)
          have k375 := atp.tg k345 hq hwq (by decide)
          have k376 := atp.tg k346 hq hu0 (by decide)
          have k377 := atp.tg k347 hq hu0 (by decide)
          have k378 := atp.tg k348 hq hu0 (by decide)
          have k379 := atp.tg k349 hq hu0 (by decide)
          have k380 := atp.tg k350 hq hu0 (by decide)
          have k381 := atp.tg k351 hq hu0 (by decide)
          have k383 := atp.tr k353 (hn_ xq hnx.symm)
          have k384 := atp.tg k354 hq hu0 (by decide)
          have k385 := atp.tg k355 hq hu0 (by decide)
          have k386 := atp.tg k356 hq hu0 (by decide)
          have k387 := atp.tg k357 hq tmq (by decide)
          have k388 := atp.tg k358 hq tmq (by decide)
          have k389 := atp.tg k359 hq tmq (by decide)
          have k390 := atp.tg k360 hq tmq (by decide)
          have k391 := atp.tg k361 hq trq (by decide)
          have k392 := atp.tg k362 hq trq (by decide)
          have k393 := atp.tg k363 hq trq (by decide)
          have k394 := atp.tg k364 hq trq (by decide)
          have k395 := atp.tg kpu0_6f340 hq hu0 (by decide)
          have k396 := atp.tg kpu0_7f340 hq hu0 (by decide)
          have k397 := atp.tg kRsqf340 hq hsq (by decide)
          have k398 := atp.tg kRoqf340 hq hoq (by decide)
          have nmq0_ : (0 : Int32).toInt = 0 := rfl
          have nmq1_ : (0 : Int32).toInt = 0 := rfl
          obtain ⟨ju_, jb_, js_⟩ := jtf340
          have hus_ := ju_
          rw [usw_c (V := fun t : Nat => vb (10 * vu + t).toNat) hvb.1 8 (Nat.le_refl 8)] at hus_
          have hbi_ := jb_
          rw [bitw_c (V := fun t : Nat => vb (10 * vu + t).toNat) hvb.1 8 (Nat.le_refl 8)] at hbi_
          have hst_ := stp_c (V := fun t : Nat => vb (10 * vu + t).toNat) hvb.1 js_
          have hP_ : ∀ x_ y_ : Int, sX.toInt - 60 ≤ x_ → x_ ≤ sX.toInt + 60 → sY.toInt - 60 ≤ y_ → y_ ≤ sY.toInt + 60 → ((fun x_ y_ => decide (insd u3.toInt x_ y_)) x_ y_ = true ↔ 0 ≤ x_ ∧ x_ ≤ z174.toInt ∧ 0 ≤ y_ ∧ y_ ≤ z202.toInt) := fun x_ y_ a1_ a2_ a3_ a4_ => by
            show decide (insd u3.toInt x_ y_) = true ↔ _
            rw [decide_eq_true_iff]
            constructor
            · intro z_; omega
            · intro z_; omega
          have gs_ : GS G τ f369 u0 rq mq vb vu (fun x_ y_ => decide (insd u3.toInt x_ y_)) u2.toInt 0 := ⟨nq, xq, sq, oq, R371, rx1_f3, wo1_f340, sh1_f340, sX, sY, sX, sY, sX, sY, 0, 0, z174, z202, us_f340, bi_f340, u2, ⟨hnx, ⟨hnq, hxq, hsq, hoq⟩, trq, tmq, hu0, ipu0_6f340⟩, ⟨⟨k378, k379, k377, k376⟩, ⟨k380, k381, k395, k396⟩, k384, k385, k386⟩, ⟨k391, k392, k393, k394⟩, ⟨k387, k388, k389, k390⟩, ⟨k370, k383, k397, k398⟩, GSv.init (r0 := rn1_f3) ⟨⟨hvb.2.1.1, hvb.2.1.2⟩, hvb.2.2, rfl, by omega, by omega⟩ ⟨hus_, hbi_⟩ hst_ hP_ ⟨⟨hsX, hsY, ⟨by decide, by decide⟩, ⟨by decide, by decide⟩, (iv_w iz174 (by decide)), (iv_w iz202 (by decide))⟩, ⟨by omega, by omega, by omega, by omega⟩, by omega, by omega, by omega, by omega⟩ pRnqf3 pRxqf3 (fun k => by rw [erR371, show r366.toInt.toNat = 7564 by omega]; rfl)⟩
          exact u_vret C h hr hQ (⟨tf369, of369, gs_, (GS.gj gs_)⟩) (Nat.le_of_ble_eq_true rfl) (Nat.le_of_ble_eq_true rfl) dX2_open_198
    · have c113 : u3.toInt ≠ 0 := fun z_ => c111 (Int32.toInt_inj.mp z_)
      exact (iv_cn_ c113 i109 (iv_k (x := 0) (k := 0) rfl) (by decide)).elim
  · have c110 : u3.toInt ≠ 0 := fun z_ => c107 (Int32.toInt_inj.mp z_)
    refine lv_iload_n hx hb dX2_open_29 rfl (lv_at hl 3 rfl) ?_
    refine lv_iconst (v := 3) hx hb dX2_open_30 (by decide) ?_
    refine lv_icmp_ne (tgt := 38) hx hb dX2_open_31 (by decide) (fun c399 => ?_) (fun c399 => ?_)
    · have c400 : u3.toInt ≠ 3 := fun z_ => c399 (Int32.toInt_inj.mp z_)
      refine lv_iconst (v := 0) hx hb dX2_open_38 (by decide) ?_
      refine lv_istore (lv' := [(4, .int 0), (0, .ref u0), (1, .ref u1), (2, .int u2), (3, .int u3)]) hx hb dX2_open_39 hl (by decide) rfl (fun ls hl => ?_)
      refine lv_iload_n hx hb dX2_open_41 rfl (lv_at hl 4 rfl) ?_
      refine lv_if_eq (tgt := 50) hx hb dX2_open_42 (by decide) (fun c403 => ?_) (fun c403 => ?_)
      · have c404 : u3.toInt = 0 := congrArg Int32.toInt c403
        have i405 : iv u3 0 0 := iv_Q c404 hu3 (iv_k (x := 0) (k := 0) rfl) (by decide)
        refine lv_iconst (v := 1) hx hb dX2_open_50 (by decide) ?_
        refine lv_goto (tgt := 55) hx hb dX2_open_51 (by decide) ?_
        refine lv_istore (lv' := [(5, .int 1), (4, .int 0), (0, .ref u0), (1, .ref u1), (2, .int u2), (3, .int u3)]) hx hb dX2_open_55 hl (by decide) rfl (fun ls hl => ?_)
        refine lv_aload_n hx hb dX2_open_57 rfl (lv_at hl 2 rfl) ?_
        refine t_getfd C h tf80 hu0 (by decide) wf_20 (v := .ref mq) k86 fl_X2_21 dX2_open_58 ?_
        refine lv_iload hx hb dX2_open_61 (lv_at hl 1 rfl) ?_
        refine lv_if_eq (tgt := 70) hx hb dX2_open_63 (by decide) (fun c407 => ?_) (fun c407 => ?_)
        · refine lv_aload_n hx hb dX2_open_70 rfl (lv_at hl 2 rfl) ?_
          refine t_getfd C h tf80 hu0 (by decide) wf_20 (v := .int sX) k105 fl_X2_55 dX2_open_71 ?_
          refine lv_bipush (v := 60) hx hb dX2_open_74 (by decide) ?_
          refine i_subk hx hb dX2_open_76 hsX (k := 60) rfl (lo := (-60)) (hi := (-51)) (by decide) (fun z410 ez410 mz410 iz410 => ?_)
          refine t_put C h tf80 of80 tmq (by decide) (by decide) (by decide) wf_22 fw_22 (k := 0) rfl flw_X2_60 (Or.inr ⟨_, _, _, rfl, rfl⟩) (v := .int z410) rfl rfl ⟨_, rfl, (iv_w iz410 (by decide))⟩ dX2_open_77 (fun f411 H locs h tf411 of411 hq ha_ hn_ hk_ => ?_)
          have k412 := atp.tg k81 hq hu1 (by decide)
          have k413 := atp.tg k82 hq hu1 (by decide)
          have k414 := atp.tg k83 hq hu1 (by decide)
          have k415 := atp.tg k84 hq hwq (by decide)
          have k416 := atp.tg k85 hq hu0 (by decide)
          have k417 := atp.tg k86 hq hu0 (by decide)
          have k418 := atp.tg k88 hq trq (by decide)
          have k419 := atp.tg k89 hq trq (by decide)
          have k420 := atp.tg k90 hq trq (by decide)
          have k421 := atp.tg k91 hq trq (by decide)
          have k423 := hk_ 1 _ (by decide) k93
          have k424 := hk_ 2 _ (by decide) k94
          have k425 := hk_ 3 _ (by decide) k95
          have k426 := atp.tg k96 hq hu0 (by decide)
          have k427 := atp.tg k97 hq hu0 (by decide)
          have k428 := atp.tg k98 hq hu0 (by decide)
          have k429 := atp.tg k99 hq hu0 (by decide)
          have k430 := atp.tg k100 hq hsq (by decide)
          have k431 := atp.tg k101 hq hoq (by decide)
          have k432 := atp.tg k102 hq hnq (by decide)
          have k433 := atp.tg k103 hq hxq (by decide)
          have k434 := atp.tg k104 hq hu0 (by decide)
          have k435 := atp.tg k105 hq hu0 (by decide)
          have k436 := atp.tg k106 hq hu0 (by decide)
          have k437 := ha_
          refine lv_aload_n hx hb dX2_open_80 rfl (lv_at hl 2 rfl) ?_
          refine t_getfd C h tf411 hu0 (by decide) wf_20 (v := .ref mq) k417 fl_X2_21 dX2_open_81 ?_
          refine lv_iload hx hb dX2_open_84 (lv_at hl 0 rfl) ?_
          refine lv_if_eq (tgt := 93) hx hb dX2_open_86 (by decide) (fun c438 => ?_) (fun c438 => ?_)
          · exact absurd c438 (by decide)
          · refine lv_iconst (v := 0) hx hb dX2_open_89 (by decide) ?_
            refine lv_goto (tgt := 100) hx hb dX2_open_90 (by decide) ?_
            refine t_put C h tf411 of411 tmq (by decide) (by decide) (by decide) wf_22 fw_22 (k := 1) rfl flw_X2_63 (Or.inr ⟨_, _, _, rfl, rfl⟩) (v := .int 0) rfl rfl ⟨_, rfl, ⟨by decide, by decide⟩⟩ dX2_open_100 (fun f441 H locs h tf441 of441 hq ha_ hn_ hk_ => ?_)
            have k442 := atp.tg k412 hq hu1 (by decide)
            have k443 := atp.tg k413 hq hu1 (by decide)
            have k444 := atp.tg k414 hq hu1 (by decide)
            have k445 := atp.tg k415 hq hwq (by decide)
            have k446 := atp.tg k416 hq hu0 (by decide)
            have k447 := atp.tg k417 hq hu0 (by decide)
            have k448 := atp.tg k418 hq trq (by decide)
            have k449 := atp.tg k419 hq trq (by decide)
            have k450 := atp.tg k420 hq trq (by decide)
            have k451 := atp.tg k421 hq trq (by decide)
            have k453 := hk_ 2 _ (by decide) k424
            have k454 := hk_ 3 _ (by decide) k425
            have k455 := atp.tg k426 hq hu0 (by decide)
            have k456 := atp.tg k427 hq hu0 (by decide)
            have k457 := atp.tg k428 hq hu0 (by decide)
            have k458 := atp.tg k429 hq hu0 (by decide)
            have k459 := atp.tg k430 hq hsq (by decide)
            have k460 := atp.tg k431 hq hoq (by decide)
            have k461 := atp.tg k432 hq hnq (by decide)
            have k462 := atp.tg k433 hq hxq (by decide)
            have k463 := atp.tg k434 hq hu0 (by decide)
            have k464 := atp.tg k435 hq hu0 (by decide)
            have k465 := atp.tg k436 hq hu0 (by decide)
            have k466 := hk_ 0 _ (by decide) k437
            have k467 := ha_
            refine lv_aload_n hx hb dX2_open_103 rfl (lv_at hl 2 rfl) ?_
            refine t_getfd C h tf441 hu0 (by decide) wf_20 (v := .ref mq) k447 fl_X2_21 dX2_open_104 ?_
            refine lv_aload_n hx hb dX2_open_107 rfl (lv_at hl 2 rfl) ?_
            refine t_getfd C h tf441 hu0 (by decide) wf_20 (v := .int sX) k464 fl_X2_55 dX2_open_108 ?_
            refine lv_bipush (v := 60) hx hb dX2_open_111 (by decide) ?_
            refine i_addk hx hb dX2_open_113 hsX (k := 60) rfl (lo := 60) (hi := 69) (by decide) (fun z468 ez468 mz468 iz468 => ?_)
            refine t_put C h tf441 of441 tmq (by decide) (by decide) (by decide) wf_22 fw_22 (k := 2) rfl flw_X2_66 (Or.inr ⟨_, _, _, rfl, rfl⟩) (v := .int z468) rfl rfl ⟨_, rfl, (iv_w iz468 (by decide))⟩ dX2_open_114 (fun f469 H locs h tf469 of469 hq ha_ hn_ hk_ => ?_)
            have k470 := atp.tg k442 hq hu1 (by decide)
            have k471 := atp.tg k443 hq hu1 (by decide)
            have k472 := atp.tg k444 hq hu1 (by decide)
            have k473 := atp.tg k445 hq hwq (by decide)
            have k474 := atp.tg k446 hq hu0 (by decide)
            have k475 := atp.tg k447 hq hu0 (by decide)
            have k476 := atp.tg k448 hq trq (by decide)
            have k477 := atp.tg k449 hq trq (by decide)
            have k478 := atp.tg k450 hq trq (by decide)
            have k479 := atp.tg k451 hq trq (by decide)
            have k481 := hk_ 3 _ (by decide) k454
            have k482 := atp.tg k455 hq hu0 (by decide)
            have k483 := atp.tg k456 hq hu0 (by decide)
            have k484 := atp.tg k457 hq hu0 (by decide)
            have k485 := atp.tg k458 hq hu0 (by decide)
            have k486 := atp.tg k459 hq hsq (by decide)
            have k487 := atp.tg k460 hq hoq (by decide)
            have k488 := atp.tg k461 hq hnq (by decide)
            have k489 := atp.tg k462 hq hxq (by decide)
            have k490 := atp.tg k463 hq hu0 (by decide)
            have k491 := atp.tg k464 hq hu0 (by decide)
            have k492 := atp.tg k465 hq hu0 (by decide)
            have k493 := hk_ 0 _ (by decide) k466
            have k494 := hk_ 1 _ (by decide) k467
            have k495 := ha_
            refine lv_aload_n hx hb dX2_open_117 rfl (lv_at hl 2 rfl) ?_
            refine t_getfd C h tf469 hu0 (by decide) wf_20 (v := .ref mq) k475 fl_X2_21 dX2_open_118 ?_
            refine lv_aload_n hx hb dX2_open_121 rfl (lv_at hl 2 rfl) ?_
            refine t_getfd C h tf469 hu0 (by decide) wf_20 (v := .int sY) k492 fl_X2_59 dX2_open_122 ?_
            refine lv_bipush (v := 60) hx hb dX2_open_125 (by decide) ?_
            refine i_addk hx hb dX2_open_127 hsY (k := 60) rfl (lo := 60) (hi := 69) (by decide) (fun z496 ez496 mz496 iz496 => ?_)
            refine t_put C h tf469 of469 tmq (by decide) (by decide) (by decide) wf_22 fw_22 (k := 3) rfl flw_X2_69 (Or.inr ⟨_, _, _, rfl, rfl⟩) (v := .int z496) rfl rfl ⟨_, rfl, (iv_w iz496 (by decide))⟩ dX2_open_128 (fun f497 H locs h tf497 of497 hq ha_ hn_ hk_ => ?_)
            have k498 := atp.tg k470 hq hu1 (by decide)
            have k499 := atp.tg k471 hq hu1 (by decide)
            have k500 := atp.tg k472 hq hu1 (by decide)
            have k501 := atp.tg k473 hq hwq (by decide)
            have k502 := atp.tg k474 hq hu0 (by decide)
            have k503 := atp.tg k475 hq hu0 (by decide)
            have k504 := atp.tg k476 hq trq (by decide)
            have k505 := atp.tg k477 hq trq (by decide)
            have k506 := atp.tg k478 hq trq (by decide)
            have k507 := atp.tg k479 hq trq (by decide)
            have k509 := atp.tg k482 hq hu0 (by decide)
            have k510 := atp.tg k483 hq hu0 (by decide)
            have k511 := atp.tg k484 hq hu0 (by decide)
            have k512 := atp.tg k485 hq hu0 (by decide)
            have k513 := atp.tg k486 hq hsq (by decide)
            have k514 := atp.tg k487 hq hoq (by decide)
            have k515 := atp.tg k488 hq hnq (by decide)
            have k516 := atp.tg k489 hq hxq (by decide)
            have k517 := atp.tg k490 hq hu0 (by decide)
            have k518 := atp.tg k491 hq hu0 (by decide)
            have k519 := atp.tg k492 hq hu0 (by decide)
            have k520 := hk_ 0 _ (by decide) k493
            have k521 := hk_ 1 _ (by decide) k494
            have k522 := hk_ 2 _ (by decide) k495
            have k523 := ha_
            refine lv_aload_n hx hb dX2_open_131 rfl (lv_at hl 2 rfl) ?_
            refine t_getfd C h tf497 hu0 (by decide) wf_20 (v := .ref rq) k502 fl_X2_25 dX2_open_132 ?_
            refine lv_aload_n hx hb dX2_open_135 rfl (lv_at hl 2 rfl) ?_
            refine t_getfd C h tf497 hu0 (by decide) wf_20 (v := .int sX) k518 fl_X2_55 dX2_open_136 ?_
            refine t_put C h tf497 of497 trq (by decide) (by decide) (by decide) wf_23 fw_23 (k := 0) rfl flw_X2_60 (Or.inr ⟨_, _, _, rfl, rfl⟩) (v := .int sX) rfl rfl ⟨_, rfl, (iv_w hsX (by decide))⟩ dX2_open_139 (fun f524 H locs h tf524 of524 hq ha_ hn_ hk_ => ?_)
            have k525 := atp.tg k498 hq hu1 (by decide)
            have k526 := atp.tg k499 hq hu1 (by decide)
            have k527 := atp.tg k500 hq hu1 (by decide)
            have k528 := atp.tg k501 hq hwq (by decide)
            have k529 := atp.tg k502 hq hu0 (by decide)
            have k530 := atp.tg k503 hq hu0 (by decide)
            have k532 := hk_ 1 _ (by decide) k505
            have k533 := hk_ 2 _ (by decide) k506
            have k534 := hk_ 3 _ (by decide) k507
            have k535 := atp.tg k509 hq hu0 (by decide)
            have k536 := atp.tg k510 hq hu0 (by decide)
            have k537 := atp.tg k511 hq hu0 (by decide)
            have k538 := atp.tg k512 hq hu0 (by decide)
            have k539 := atp.tg k513 hq hsq (by decide)
            have k540 := atp.tg k514 hq hoq (by decide)
            have k541 := atp.tg k515 hq hnq (by decide)
            have k542 := atp.tg k516 hq hxq (by decide)
            have k543 := atp.tg k517 hq hu0 (by decide)
            have k544 := atp.tg k518 hq hu0 (by decide)
            have k545 := atp.tg k519 hq hu0 (by decide)
            have k546 := atp.tg k520 hq tmq (by decide)
            have k547 := atp.tg k521 hq tmq (by decide)
            have k548 := atp.tg k522 hq tmq (by decide)
            have k549 := atp.tg k523 hq tmq (by decide)
            have k550 := ha_
            refine lv_aload_n hx hb dX2_open_142 rfl (lv_at hl 2 rfl) ?_
            refine t_getfd C h tf524 hu0 (by decide) wf_20 (v := .ref rq) k529 fl_X2_25 dX2_open_143 ?_
            refine lv_aload_n hx hb dX2_open_146 rfl (lv_at hl 2 rfl) ?_
            refine t_getfd C h tf524 hu0 (by decide) wf_20 (v := .int sY) k545 fl_X2_59 dX2_open_147 ?_
            refine t_put C h tf524 of524 trq (by decide) (by decide) (by decide) wf_23 fw_23 (k := 1) rfl flw_X2_63 (Or.inr ⟨_, _, _, rfl, rfl⟩) (v := .int sY) rfl rfl ⟨_, rfl, (iv_w hsY (by decide))⟩ dX2_open_150 (fun f551 H locs h tf551 of551 hq ha_ hn_ hk_ => ?_)
            have k552 := atp.tg k525 hq hu1 (by decide)
            have k553 := atp.tg k526 hq hu1 (by decide)
            have k554 := atp.tg k527 hq hu1 (by decide)
            have k555 := atp.tg k528 hq hwq (by decide)
            have k556 := atp.tg k529 hq hu0 (by decide)
            have k557 := atp.tg k530 hq hu0 (by decide)
            have k559 := hk_ 2 _ (by decide) k533
            have k560 := hk_ 3 _ (by decide) k534
            have k561 := atp.tg k535 hq hu0 (by decide)
            have k562 := atp.tg k536 hq hu0 (by decide)
            have k563 := atp.tg k537 hq hu0 (by decide)
            have k564 := atp.tg k538 hq hu0 (by decide)
            have k565 := atp.tg k539 hq hsq (by decide)
            have k566 := atp.tg k540 hq hoq (by decide)
            have k567 := atp.tg k541 hq hnq (by decide)
            have k568 := atp.tg k542 hq hxq (by decide)
            have k569 := atp.tg k543 hq hu0 (by decide)
            have k570 := atp.tg k544 hq hu0 (by decide)
            have k571 := atp.tg k545 hq hu0 (by decide)
            have k572 := atp.tg k546 hq tmq (by decide)
            have k573 := atp.tg k547 hq tmq (by decide)
            have k574 := atp.tg k548 hq tmq (by decide)
            have k575 := atp.tg k549 hq tmq (by decide)
            have k576 := hk_ 0 _ (by decide) k550
            have k577 := ha_
            refine lv_aload_n hx hb dX2_open_153 rfl (lv_at hl 2 rfl) ?_
            refine t_getfd C h tf551 hu0 (by decide) wf_20 (v := .ref rq) k556 fl_X2_25 dX2_open_154 ?_
            refine lv_aload_n hx hb dX2_open_157 rfl (lv_at hl 2 rfl) ?_
            refine t_getfd C h tf551 hu0 (by decide) wf_20 (v := .int sX) k570 fl_X2_55 dX2_open_158 ?_
            refine t_put C h tf551 of551 trq (by decide) (by decide) (by decide) wf_23 fw_23 (k := 2) rfl flw_X2_66 (Or.inr ⟨_, _, _, rfl, rfl⟩) (v := .int sX) rfl rfl ⟨_, rfl, (iv_w hsX (by decide))⟩ dX2_open_161 (fun f578 H locs h tf578 of578 hq ha_ hn_ hk_ => ?_)
            have k579 := atp.tg k552 hq hu1 (by decide)
            have k580 := atp.tg k553 hq hu1 (by decide)
            have k581 := atp.tg k554 hq hu1 (by decide)
            have k582 := atp.tg k555 hq hwq (by decide)
            have k583 := atp.tg k556 hq hu0 (by decide)
            have k584 := atp.tg k557 hq hu0 (by decide)
            have k586 := hk_ 3 _ (by decide) k560
            have k587 := atp.tg k561 hq hu0 (by decide)
            have k588 := atp.tg k562 hq hu0 (by decide)
            have k589 := atp.tg k563 hq hu0 (by decide)
            have k590 := atp.tg k564 hq hu0 (by decide)
            have k591 := atp.tg k565 hq hsq (by decide)
            have k592 := atp.tg k566 hq hoq (by decide)
            have k593 := atp.tg k567 hq hnq (by decide)
            have k594 := atp.tg k568 hq hxq (by decide)
            have k595 := atp.tg k569 hq hu0 (by decide)
            have k596 := atp.tg k570 hq hu0 (by decide)
            have k597 := atp.tg k571 hq hu0 (by decide)
            have k598 := atp.tg k572 hq tmq (by decide)
            have k599 := atp.tg k573 hq tmq (by decide)
            have k600 := atp.tg k574 hq tmq (by decide)
            have k601 := atp.tg k575 hq tmq (by decide)
            have k602 := hk_ 0 _ (by decide) k576
            have k603 := hk_ 1 _ (by decide) k577
            have k604 := ha_
            refine lv_aload_n hx hb dX2_open_164 rfl (lv_at hl 2 rfl) ?_
            refine t_getfd C h tf578 hu0 (by decide) wf_20 (v := .ref rq) k583 fl_X2_25 dX2_open_165 ?_
            refine lv_aload_n hx hb dX2_open_168 rfl (lv_at hl 2 rfl) ?_
            refine t_getfd C h tf578 hu0 (by decide) wf_20 (v := .int sY) k597 fl_X2_59 dX2_open_169 ?_
            refine t_put C h tf578 of578 trq (by decide) (by decide) (by decide) wf_23 fw_23 (k := 3) rfl flw_X2_69 (Or.inr ⟨_, _, _, rfl, rfl⟩) (v := .int sY) rfl rfl ⟨_, rfl, (iv_w hsY (by decide))⟩ dX2_open_172 (fun f605 H locs h tf605 of605 hq ha_ hn_ hk_ => ?_)
            have k606 := atp.tg k579 hq hu1 (by decide)
            have k607 := atp.tg k580 hq hu1 (by decide)
            have k608 := atp.tg k581 hq hu1 (by decide)
            have k609 := atp.tg k582 hq hwq (by decide)
            have k610 := atp.tg k583 hq hu0 (by decide)
            have k611 := atp.tg k584 hq hu0 (by decide)
            have k613 := atp.tg k587 hq hu0 (by decide)
            have k614 := atp.tg k588 hq hu0 (by decide)
            have k615 := atp.tg k589 hq hu0 (by decide)
            have k616 := atp.tg k590 hq hu0 (by decide)
            have k617 := atp.tg k591 hq hsq (by decide)
            have k618 := atp.tg k592 hq hoq (by decide)
            have k619 := atp.tg k593 hq hnq (by decide)
            have k620 := atp.tg k594 hq hxq (by decide)
            have k621 := atp.tg k595 hq hu0 (by decide)
            have k622 := atp.tg k596 hq hu0 (by decide)
            have k623 := atp.tg k597 hq hu0 (by decide)
            have k624 := atp.tg k598 hq tmq (by decide)
            have k625 := atp.tg k599 hq tmq (by decide)
            have k626 := atp.tg k600 hq tmq (by decide)
            have k627 := atp.tg k601 hq tmq (by decide)
            have k628 := hk_ 0 _ (by decide) k602
            have k629 := hk_ 1 _ (by decide) k603
            have k630 := hk_ 2 _ (by decide) k604
            have k631 := ha_
            refine lv_aload_n hx hb dX2_open_175 rfl (lv_at hl 2 rfl) ?_
            refine lv_aload_n hx hb dX2_open_176 rfl (lv_at hl 3 rfl) ?_
            obtain ⟨_, r632⟩ := t_rec tf605 hu0 (by decide) wf_20
            refine k_v (r_V C h hl (As := [.ref u1]) (rest := []) (s_X2_takeSteps l D G b0 τ f605 tf605 u0 hu0 u1 hu1 sq hsq k615 oq hoq k616 u2 hu2 k621 wq hwq k606 sh k617 wo k618 ww k609) r632 (Cn := RX2) (T := TX2) (N := 11) rfl rfl mk_X2_takeSteps w_675 w_677 w_13 w_678 ⟨Nat.le_of_ble_eq_true rfl, Nat.le_of_ble_eq_true rfl⟩ rfl (Nat.le_of_ble_eq_true rfl) ⟨Nat.le_of_ble_eq_true rfl, Nat.le_of_ble_eq_true rfl⟩ rfl dX2_open_177) h (fun f634 H locs p635 h => ?_)
            obtain ⟨tf634, ogf634, ⟨us_f634, bi_f634, sh1_f634, wo1_f634, ⟨kpu0_6f634, ipu0_6f634⟩, ⟨kpu0_7f634, ipu0_7f634⟩, kRsqf634, kRoqf634, jtf634⟩⟩ := p635
            have of634 : Fr [20, 21, 22, 23, 24, 25, 20007, 20008, 20009, 20010, 20011, 22001, 22002, 22003, 22004, 23001, 23002, 23003, 23004] τ f f634 := Fr.tr of605 ogf634 (by decide) (by decide)
            have k636 := atp.fr k606 ogf634 hu1 (by decide)
            have k637 := atp.fr k607 ogf634 hu1 (by decide)
            have k638 := atp.fr k608 ogf634 hu1 (by decide)
            have k639 := atp.fr k609 ogf634 hwq (by decide)
            have k640 := atp.fk k610 ogf634 hu0 (by decide) (by decide)
            have k641 := atp.fk k611 ogf634 hu0 (by decide) (by decide)
            have k642 := atp.fk k613 ogf634 hu0 (by decide) (by decide)
            have k643 := atp.fk k614 ogf634 hu0 (by decide) (by decide)
            have k644 := atp.fk k615 ogf634 hu0 (by decide) (by decide)
            have k645 := atp.fk k616 ogf634 hu0 (by decide) (by decide)
            have k646 := atp.fr k619 ogf634 hnq (by decide)
            have k647 := atp.fr k620 ogf634 hxq (by decide)
            have k648 := atp.fk k621 ogf634 hu0 (by decide) (by decide)
            have k649 := atp.fk k622 ogf634 hu0 (by decide) (by decide)
            have k650 := atp.fk k623 ogf634 hu0 (by decide) (by decide)
            have k651 := atp.fr k624 ogf634 tmq (by decide)
            have k652 := atp.fr k625 ogf634 tmq (by decide)
            have k653 := atp.fr k626 ogf634 tmq (by decide)
            have k654 := atp.fr k627 ogf634 tmq (by decide)
            have k655 := atp.fr k628 ogf634 trq (by decide)
            have k656 := atp.fr k629 ogf634 trq (by decide)
            have k657 := atp.fr k630 ogf634 trq (by decide)
            have k658 := atp.fr k631 ogf634 trq (by decide)
            refine lv_aload_n hx hb dX2_open_180 rfl (lv_at hl 2 rfl) ?_
            refine t_getfd C h tf634 hu0 (by decide) wf_20 (v := .ref nq) k642 fl_X2_11 dX2_open_181 ?_
            refine lv_aload_n hx hb dX2_open_184 rfl (lv_at hl 2 rfl) ?_
            refine lv_aload_n hx hb dX2_open_185 rfl (lv_at hl 2 rfl) ?_
            refine t_getfd C h tf634 hu0 (by decide) wf_20 (v := .int sX) k649 fl_X2_55 dX2_open_186 ?_
            refine lv_aload_n hx hb dX2_open_189 rfl (lv_at hl 2 rfl) ?_
            refine t_getfd C h tf634 hu0 (by decide) wf_20 (v := .int sY) k650 fl_X2_59 dX2_open_190 ?_
            obtain ⟨_, r659⟩ := t_rec tf634 hu0 (by decide) wf_20
            refine k_i (r_V C h hl (As := [.int sX, .int sY]) (rest := [.ref nq]) (s_X2_cell l D G b0 τ f634 tf634 u0 hu0 sX (iv_w hsX (by decide)) sY (iv_w hsY (by decide)) sX hsX k649 sY hsY k650) r659 (Cn := RX2) (T := TX2) (N := 11) rfl rfl mk_X2_cell w_671 w_673 w_12 w_674 ⟨Nat.le_of_ble_eq_true rfl, Nat.le_of_ble_eq_true rfl⟩ rfl (Nat.le_of_ble_eq_true rfl) ⟨Nat.le_of_ble_eq_true rfl, Nat.le_of_ble_eq_true rfl⟩ rfl dX2_open_193) h (fun r660 f661 H locs p662 h => ?_)
            obtain ⟨ir660, tf661, ogf661, x0r660⟩ := p662
            have egf661 := Fr.nil2 ogf661
            subst egf661
            refine lv_lconst (v := 1) hx hb dX2_open_196 (by decide) ?_
            refine e_last C h tf634 of634 hnq (by decide) (by decide) wf_21 fw_21 k646 (x := 1) (ix_o (by omega)) dX2_open_197 (fun R665 f663 erR665 H locs h tf663 of663 hq hn_ k664 => ?_)
            have k666 := atp.tg k636 hq hu1 (by decide)
            have k667 := atp.tg k637 hq hu1 (by decide)
            have k668 := atp.tg k638 hq hu1 (by decide)
            have k669 := atp.tg k639 hq hwq (by decide)
            have k670 := atp.tg k640 hq hu0 (by decide)
            have k671 := atp.tg k641 hq hu0 (by decide)
            have k672 := atp.tg k642 hq hu0 (by decide)
            have k673 := atp.tg k643 hq hu0 (by decide)
            have k674 := atp.tg k644 hq hu0 (by decide)
            have k675 := atp.tg k645 hq hu0 (by decide)
            have k677 := atp.tr k647 (hn_ xq hnx.symm)
            have k678 := atp.tg k648 hq hu0 (by decide)
            have k679 := atp.tg k649 hq hu0 (by decide)
            have k680 := atp.tg k650 hq hu0 (by decide)
            have k681 := atp.tg k651 hq tmq (by decide)
            have k682 := atp.tg k652 hq tmq (by decide)
            have k683 := atp.tg k653 hq tmq (by decide)
            have k684 := atp.tg k654 hq tmq (by decide)
            have k685 := atp.tg k655 hq trq (by decide)
            have k686 := atp.tg k656 hq trq (by decide)
            have k687 := atp.tg k657 hq trq (by decide)
            have k688 := atp.tg k658 hq trq (by decide)
            have k689 := atp.tg kpu0_6f634 hq hu0 (by decide)
            have k690 := atp.tg kpu0_7f634 hq hu0 (by decide)
            have k691 := atp.tg kRsqf634 hq hsq (by decide)
            have k692 := atp.tg kRoqf634 hq hoq (by decide)
            have nmq1_ : (0 : Int32).toInt = 0 := rfl
            obtain ⟨ju_, jb_, js_⟩ := jtf634
            have hus_ := ju_
            rw [usw_c (V := fun t : Nat => vb (10 * vu + t).toNat) hvb.1 8 (Nat.le_refl 8)] at hus_
            have hbi_ := jb_
            rw [bitw_c (V := fun t : Nat => vb (10 * vu + t).toNat) hvb.1 8 (Nat.le_refl 8)] at hbi_
            have hst_ := stp_c (V := fun t : Nat => vb (10 * vu + t).toNat) hvb.1 js_
            have hP_ : ∀ x_ y_ : Int, sX.toInt - 60 ≤ x_ → x_ ≤ sX.toInt + 60 → sY.toInt - 60 ≤ y_ → y_ ≤ sY.toInt + 60 → ((fun x_ y_ => decide (insd u3.toInt x_ y_)) x_ y_ = true ↔ z410.toInt ≤ x_ ∧ x_ ≤ z468.toInt ∧ 0 ≤ y_ ∧ y_ ≤ z496.toInt) := fun x_ y_ a1_ a2_ a3_ a4_ => by
              show decide (insd u3.toInt x_ y_) = true ↔ _
              rw [decide_eq_true_iff]
              constructor
              · intro z_; omega
              · intro z_; omega
            have gs_ : GS G τ f663 u0 rq mq vb vu (fun x_ y_ => decide (insd u3.toInt x_ y_)) u2.toInt 0 := ⟨nq, xq, sq, oq, R665, rx1_f3, wo1_f634, sh1_f634, sX, sY, sX, sY, sX, sY, z410, 0, z468, z496, us_f634, bi_f634, u2, ⟨hnx, ⟨hnq, hxq, hsq, hoq⟩, trq, tmq, hu0, ipu0_6f634⟩, ⟨⟨k672, k673, k671, k670⟩, ⟨k674, k675, k689, k690⟩, k678, k679, k680⟩, ⟨k685, k686, k687, k688⟩, ⟨k681, k682, k683, k684⟩, ⟨k664, k677, k691, k692⟩, GSv.init (r0 := rn1_f3) ⟨⟨hvb.2.1.1, hvb.2.1.2⟩, hvb.2.2, rfl, by omega, by omega⟩ ⟨hus_, hbi_⟩ hst_ hP_ ⟨⟨hsX, hsY, (iv_w iz410 (by decide)), ⟨by decide, by decide⟩, (iv_w iz468 (by decide)), (iv_w iz496 (by decide))⟩, ⟨by omega, by omega, by omega, by omega⟩, by omega, by omega, by omega, by omega⟩ pRnqf3 pRxqf3 (fun k => by rw [erR665, show r660.toInt.toNat = 7564 by omega]; rfl)⟩
            exact u_vret C h hr hQ (⟨tf663, of663, gs_, (GS.gj gs_)⟩) (Nat.le_of_ble_eq_true rfl) (Nat.le_of_ble_eq_true rfl) dX2_open_198
        · exact absurd c407 (by decide)
      · have c406 : u3.toInt ≠ 0 := fun z_ => c403 (Int32.toInt_inj.mp z_)
        refine lv_iload_n hx hb dX2_open_45 rfl (lv_at hl 4 rfl) ?_
        refine lv_iconst (v := 1) hx hb dX2_open_46 (by decide) ?_
        refine lv_icmp_ne (tgt := 54) hx hb dX2_open_47 (by decide) (fun c693 => ?_) (fun c693 => ?_)
        · have c694 : u3.toInt ≠ 1 := fun z_ => c693 (Int32.toInt_inj.mp z_)
          refine lv_iconst (v := 0) hx hb dX2_open_54 (by decide) ?_
          refine lv_istore (lv' := [(5, .int 0), (4, .int 0), (0, .ref u0), (1, .ref u1), (2, .int u2), (3, .int u3)]) hx hb dX2_open_55 hl (by decide) rfl (fun ls hl => ?_)
          refine lv_aload_n hx hb dX2_open_57 rfl (lv_at hl 2 rfl) ?_
          refine t_getfd C h tf80 hu0 (by decide) wf_20 (v := .ref mq) k86 fl_X2_21 dX2_open_58 ?_
          refine lv_iload hx hb dX2_open_61 (lv_at hl 1 rfl) ?_
          refine lv_if_eq (tgt := 70) hx hb dX2_open_63 (by decide) (fun c697 => ?_) (fun c697 => ?_)
          · refine lv_aload_n hx hb dX2_open_70 rfl (lv_at hl 2 rfl) ?_
            refine t_getfd C h tf80 hu0 (by decide) wf_20 (v := .int sX) k105 fl_X2_55 dX2_open_71 ?_
            refine lv_bipush (v := 60) hx hb dX2_open_74 (by decide) ?_
            refine i_subk hx hb dX2_open_76 hsX (k := 60) rfl (lo := (-60)) (hi := (-51)) (by decide) (fun z700 ez700 mz700 iz700 => ?_)
            refine t_put C h tf80 of80 tmq (by decide) (by decide) (by decide) wf_22 fw_22 (k := 0) rfl flw_X2_60 (Or.inr ⟨_, _, _, rfl, rfl⟩) (v := .int z700) rfl rfl ⟨_, rfl, (iv_w iz700 (by decide))⟩ dX2_open_77 (fun f701 H locs h tf701 of701 hq ha_ hn_ hk_ => ?_)
            have k702 := atp.tg k81 hq hu1 (by decide)
            have k703 := atp.tg k82 hq hu1 (by decide)
            have k704 := atp.tg k83 hq hu1 (by decide)
            have k705 := atp.tg k84 hq hwq (by decide)
            have k706 := atp.tg k85 hq hu0 (by decide)
            have k707 := atp.tg k86 hq hu0 (by decide)
            have k708 := atp.tg k88 hq trq (by decide)
            have k709 := atp.tg k89 hq trq (by decide)
            have k710 := atp.tg k90 hq trq (by decide)
            have k711 := atp.tg k91 hq trq (by decide)
            have k713 := hk_ 1 _ (by decide) k93
            have k714 := hk_ 2 _ (by decide) k94
            have k715 := hk_ 3 _ (by decide) k95
            have k716 := atp.tg k96 hq hu0 (by decide)
            have k717 := atp.tg k97 hq hu0 (by decide)
            have k718 := atp.tg k98 hq hu0 (by decide)
            have k719 := atp.tg k99 hq hu0 (by decide)
            have k720 := atp.tg k100 hq hsq (by decide)
            have k721 := atp.tg k101 hq hoq (by decide)
            have k722 := atp.tg k102 hq hnq (by decide)
            have k723 := atp.tg k103 hq hxq (by decide)
            have k724 := atp.tg k104 hq hu0 (by decide)
            have k725 := atp.tg k105 hq hu0 (by decide)
            have k726 := atp.tg k106 hq hu0 (by decide)
            have k727 := ha_
            refine lv_aload_n hx hb dX2_open_80 rfl (lv_at hl 2 rfl) ?_
            refine t_getfd C h tf701 hu0 (by decide) wf_20 (v := .ref mq) k707 fl_X2_21 dX2_open_81 ?_
            refine lv_iload hx hb dX2_open_84 (lv_at hl 0 rfl) ?_
            refine lv_if_eq (tgt := 93) hx hb dX2_open_86 (by decide) (fun c728 => ?_) (fun c728 => ?_)
            · refine lv_aload_n hx hb dX2_open_93 rfl (lv_at hl 2 rfl) ?_
              refine t_getfd C h tf701 hu0 (by decide) wf_20 (v := .int sY) k726 fl_X2_59 dX2_open_94 ?_
              refine lv_bipush (v := 60) hx hb dX2_open_97 (by decide) ?_
              refine i_subk hx hb dX2_open_99 hsY (k := 60) rfl (lo := (-60)) (hi := (-51)) (by decide) (fun z731 ez731 mz731 iz731 => ?_)
              refine t_put C h tf701 of701 tmq (by decide) (by decide) (by decide) wf_22 fw_22 (k := 1) rfl flw_X2_63 (Or.inr ⟨_, _, _, rfl, rfl⟩) (v := .int z731) rfl rfl ⟨_, rfl, (iv_w iz731 (by decide))⟩ dX2_open_100 (fun f732 H locs h tf732 of732 hq ha_ hn_ hk_ => ?_)
              have k733 := atp.tg k702 hq hu1 (by decide)
              have k734 := atp.tg k703 hq hu1 (by decide)
              have k735 := atp.tg k704 hq hu1 (by decide)
              have k736 := atp.tg k705 hq hwq (by decide)
              have k737 := atp.tg k706 hq hu0 (by decide)
              have k738 := atp.tg k707 hq hu0 (by decide)
              have k739 := atp.tg k708 hq trq (by decide)
              have k740 := atp.tg k709 hq trq (by decide)
              have k741 := atp.tg k710 hq trq (by decide)
              have k742 := atp.tg k711 hq trq (by decide)
              have k744 := hk_ 2 _ (by decide) k714
              have k745 := hk_ 3 _ (by decide) k715
              have k746 := atp.tg k716 hq hu0 (by decide)
              have k747 := atp.tg k717 hq hu0 (by decide)
              have k748 := atp.tg k718 hq hu0 (by decide)
              have k749 := atp.tg k719 hq hu0 (by decide)
              have k750 := atp.tg k720 hq hsq (by decide)
              have k751 := atp.tg k721 hq hoq (by decide)
              have k752 := atp.tg k722 hq hnq (by decide)
              have k753 := atp.tg k723 hq hxq (by decide)
              have k754 := atp.tg k724 hq hu0 (by decide)
              have k755 := atp.tg k725 hq hu0 (by decide)
              have k756 := atp.tg k726 hq hu0 (by decide)
              have k757 := hk_ 0 _ (by decide) k727
              have k758 := ha_
              refine lv_aload_n hx hb dX2_open_103 rfl (lv_at hl 2 rfl) ?_
              refine t_getfd C h tf732 hu0 (by decide) wf_20 (v := .ref mq) k738 fl_X2_21 dX2_open_104 ?_
              refine lv_aload_n hx hb dX2_open_107 rfl (lv_at hl 2 rfl) ?_
              refine t_getfd C h tf732 hu0 (by decide) wf_20 (v := .int sX) k755 fl_X2_55 dX2_open_108 ?_
              refine lv_bipush (v := 60) hx hb dX2_open_111 (by decide) ?_
              refine i_addk hx hb dX2_open_113 hsX (k := 60) rfl (lo := 60) (hi := 69) (by decide) (fun z759 ez759 mz759 iz759 => ?_)
              refine t_put C h tf732 of732 tmq (by decide) (by decide) (by decide) wf_22 fw_22 (k := 2) rfl flw_X2_66 (Or.inr ⟨_, _, _, rfl, rfl⟩) (v := .int z759) rfl rfl ⟨_, rfl, (iv_w iz759 (by decide))⟩ dX2_open_114 (fun f760 H locs h tf760 of760 hq ha_ hn_ hk_ => ?_)
              have k761 := atp.tg k733 hq hu1 (by decide)
              have k762 := atp.tg k734 hq hu1 (by decide)
              have k763 := atp.tg k735 hq hu1 (by decide)
              have k764 := atp.tg k736 hq hwq (by decide)
              have k765 := atp.tg k737 hq hu0 (by decide)
              have k766 := atp.tg k738 hq hu0 (by decide)
              have k767 := atp.tg k739 hq trq (by decide)
              have k768 := atp.tg k740 hq trq (by decide)
              have k769 := atp.tg k741 hq trq (by decide)
              have k770 := atp.tg k742 hq trq (by decide)
              have k772 := hk_ 3 _ (by decide) k745
              have k773 := atp.tg k746 hq hu0 (by decide)
              have k774 := atp.tg k747 hq hu0 (by decide)
              have k775 := atp.tg k748 hq hu0 (by decide)
              have k776 := atp.tg k749 hq hu0 (by decide)
              have k777 := atp.tg k750 hq hsq (by decide)
              have k778 := atp.tg k751 hq hoq (by decide)
              have k779 := atp.tg k752 hq hnq (by decide)
              have k780 := atp.tg k753 hq hxq (by decide)
              have k781 := atp.tg k754 hq hu0 (by decide)
              have k782 := atp.tg k755 hq hu0 (by decide)
              have k783 := atp.tg k756 hq hu0 (by decide)
              have k784 := hk_ 0 _ (by decide) k757
              have k785 := hk_ 1 _ (by decide) k758
              have k786 := ha_
              refine lv_aload_n hx hb dX2_open_117 rfl (lv_at hl 2 rfl) ?_
              refine t_getfd C h tf760 hu0 (by decide) wf_20 (v := .ref mq) k766 fl_X2_21 dX2_open_118 ?_
              refine lv_aload_n hx hb dX2_open_121 rfl (lv_at hl 2 rfl) ?_
              refine t_getfd C h tf760 hu0 (by decide) wf_20 (v := .int sY) k783 fl_X2_59 dX2_open_122 ?_
              refine lv_bipush (v := 60) hx hb dX2_open_125 (by decide) ?_
              refine i_addk hx hb dX2_open_127 hsY (k := 60) rfl (lo := 60) (hi := 69) (by decide) (fun z787 ez787 mz787 iz787 => ?_)
              refine t_put C h tf760 of760 tmq (by decide) (by decide) (by decide) wf_22 fw_22 (k := 3) rfl flw_X2_69 (Or.inr ⟨_, _, _, rfl, rfl⟩) (v := .int z787) rfl rfl ⟨_, rfl, (iv_w iz787 (by decide))⟩ dX2_open_128 (fun f788 H locs h tf788 of788 hq ha_ hn_ hk_ => ?_)
              have k789 := atp.tg k761 hq hu1 (by decide)
              have k790 := atp.tg k762 hq hu1 (by decide)
              have k791 := atp.tg k763 hq hu1 (by decide)
              have k792 := atp.tg k764 hq hwq (by decide)
              have k793 := atp.tg k765 hq hu0 (by decide)
              have k794 := atp.tg k766 hq hu0 (by decide)
              have k795 := atp.tg k767 hq trq (by decide)
              have k796 := atp.tg k768 hq trq (by decide)
              have k797 := atp.tg k769 hq trq (by decide)
              have k798 := atp.tg k770 hq trq (by decide)
              have k800 := atp.tg k773 hq hu0 (by decide)
              have k801 := atp.tg k774 hq hu0 (by decide)
              have k802 := atp.tg k775 hq hu0 (by decide)
              have k803 := atp.tg k776 hq hu0 (by decide)
              have k804 := atp.tg k777 hq hsq (by decide)
              have k805 := atp.tg k778 hq hoq (by decide)
              have k806 := atp.tg k779 hq hnq (by decide)
              have k807 := atp.tg k780 hq hxq (by decide)
              have k808 := atp.tg k781 hq hu0 (by decide)
              have k809 := atp.tg k782 hq hu0 (by decide)
              have k810 := atp.tg k783 hq hu0 (by decide)
              have k811 := hk_ 0 _ (by decide) k784
              have k812 := hk_ 1 _ (by decide) k785
              have k813 := hk_ 2 _ (by decide) k786
              have k814 := ha_
              refine lv_aload_n hx hb dX2_open_131 rfl (lv_at hl 2 rfl) ?_
              refine t_getfd C h tf788 hu0 (by decide) wf_20 (v := .ref rq) k793 fl_X2_25 dX2_open_132 ?_
              refine lv_aload_n hx hb dX2_open_135 rfl (lv_at hl 2 rfl) ?_
              refine t_getfd C h tf788 hu0 (by decide) wf_20 (v := .int sX) k809 fl_X2_55 dX2_open_136 ?_
              refine t_put C h tf788 of788 trq (by decide) (by decide) (by decide) wf_23 fw_23 (k := 0) rfl flw_X2_60 (Or.inr ⟨_, _, _, rfl, rfl⟩) (v := .int sX) rfl rfl ⟨_, rfl, (iv_w hsX (by decide))⟩ dX2_open_139 (fun f815 H locs h tf815 of815 hq ha_ hn_ hk_ => ?_)
              have k816 := atp.tg k789 hq hu1 (by decide)
              have k817 := atp.tg k790 hq hu1 (by decide)
              have k818 := atp.tg k791 hq hu1 (by decide)
              have k819 := atp.tg k792 hq hwq (by decide)
              have k820 := atp.tg k793 hq hu0 (by decide)
              have k821 := atp.tg k794 hq hu0 (by decide)
              have k823 := hk_ 1 _ (by decide) k796
              have k824 := hk_ 2 _ (by decide) k797
              have k825 := hk_ 3 _ (by decide) k798
              have k826 := atp.tg k800 hq hu0 (by decide)
              have k827 := atp.tg k801 hq hu0 (by decide)
              have k828 := atp.tg k802 hq hu0 (by decide)
              have k829 := atp.tg k803 hq hu0 (by decide)
              have k830 := atp.tg k804 hq hsq (by decide)
              have k831 := atp.tg k805 hq hoq (by decide)
              have k832 := atp.tg k806 hq hnq (by decide)
              have k833 := atp.tg k807 hq hxq (by decide)
              have k834 := atp.tg k808 hq hu0 (by decide)
              have k835 := atp.tg k809 hq hu0 (by decide)
              have k836 := atp.tg k810 hq hu0 (by decide)
              have k837 := atp.tg k811 hq tmq (by decide)
              have k838 := atp.tg k812 hq tmq (by decide)
              have k839 := atp.tg k813 hq tmq (by decide)
              have k840 := atp.tg k814 hq tmq (by decide)
              have k841 := ha_
              refine lv_aload_n hx hb dX2_open_142 rfl (lv_at hl 2 rfl) ?_
              refine t_getfd C h tf815 hu0 (by decide) wf_20 (v := .ref rq) k820 fl_X2_25 dX2_open_143 ?_
              refine lv_aload_n hx hb dX2_open_146 rfl (lv_at hl 2 rfl) ?_
              refine t_getfd C h tf815 hu0 (by decide) wf_20 (v := .int sY) k836 fl_X2_59 dX2_open_147 ?_
              refine t_put C h tf815 of815 trq (by decide) (by decide) (by decide) wf_23 fw_23 (k := 1) rfl flw_X2_63 (Or.inr ⟨_, _, _, rfl, rfl⟩) (v := .int sY) rfl rfl ⟨_, rfl, (iv_w hsY (by decide))⟩ dX2_open_150 (fun f842 H locs h tf842 of842 hq ha_ hn_ hk_ => ?_)
              have k843 := atp.tg k816 hq hu1 (by decide)
              have k844 := atp.tg k817 hq hu1 (by decide)
              have k845 := atp.tg k818 hq hu1 (by decide)
              have k846 := atp.tg k819 hq hwq (by decide)
              have k847 := atp.tg k820 hq hu0 (by decide)
              have k848 := atp.tg k821 hq hu0 (by decide)
              have k850 := hk_ 2 _ (by decide) k824
              have k851 := hk_ 3 _ (by decide) k825
              have k852 := atp.tg k826 hq hu0 (by decide)
              have k853 := atp.tg k827 hq hu0 (by decide)
              have k854 := atp.tg k828 hq hu0 (by decide)
              have k855 := atp.tg k829 hq hu0 (by decide)
              have k856 := atp.tg k830 hq hsq (by decide)
              have k857 := atp.tg k831 hq hoq (by decide)
              have k858 := atp.tg k832 hq hnq (by decide)
              have k859 := atp.tg k833 hq hxq (by decide)
              have k860 := atp.tg k834 hq hu0 (by decide)
              have k861 := atp.tg k835 hq hu0 (by decide)
              have k862 := atp.tg k836 hq hu0 (by decide)
              have k863 := atp.tg k837 hq tmq (by decide)
              have k864 := atp.tg k838 hq tmq (by decide)
              have k865 := atp.tg k839 hq tmq (by decide)
              have k866 := atp.tg k840 hq tmq (by decide)
              have k867 := hk_ 0 _ (by decide) k841
              have k868 := ha_
              refine lv_aload_n hx hb dX2_open_153 rfl (lv_at hl 2 rfl) ?_
              refine t_getfd C h tf842 hu0 (by decide) wf_20 (v := .ref rq) k847 fl_X2_25 dX2_open_154 ?_
              refine lv_aload_n hx hb dX2_open_157 rfl (lv_at hl 2 rfl) ?_
              refine t_getfd C h tf842 hu0 (by decide) wf_20 (v := .int sX) k861 fl_X2_55 dX2_open_158 ?_
              refine t_put C h tf842 of842 trq (by decide) (by decide) (by decide) wf_23 fw_23 (k := 2) rfl flw_X2_66 (Or.inr ⟨_, _, _, rfl, rfl⟩) (v := .int sX) rfl rfl ⟨_, rfl, (iv_w hsX (by decide))⟩ dX2_open_161 (fun f869 H locs h tf869 of869 hq ha_ hn_ hk_ => ?_)
              have k870 := atp.tg k843 hq hu1 (by decide)
              have k871 := atp.tg k844 hq hu1 (by decide)
              have k872 := atp.tg k845 hq hu1 (by decide)
              have k873 := atp.tg k846 hq hwq (by decide)
              have k874 := atp.tg k847 hq hu0 (by decide)
              have k875 := atp.tg k848 hq hu0 (by decide)
              have k877 := hk_ 3 _ (by decide) k851
              have k878 := atp.tg k852 hq hu0 (by decide)
              have k879 := atp.tg k853 hq hu0 (by decide)
              have k880 := atp.tg k854 hq hu0 (by decide)
              have k881 := atp.tg k855 hq hu0 (by decide)
              have k882 := atp.tg k856 hq hsq (by decide)
              have k883 := atp.tg k857 hq hoq (by decide)
              have k884 := atp.tg k858 hq hnq (by decide)
              have k885 := atp.tg k859 hq hxq (by decide)
              have k886 := atp.tg k860 hq hu0 (by decide)
              have k887 := atp.tg k861 hq hu0 (by decide)
              have k888 := atp.tg k862 hq hu0 (by decide)
              have k889 := atp.tg k863 hq tmq (by decide)
              have k890 := atp.tg k864 hq tmq (by decide)
              have k891 := atp.tg k865 hq tmq (by decide)
              have k892 := atp.tg k866 hq tmq (by decide)
              have k893 := hk_ 0 _ (by decide) k867
              have k894 := hk_ 1 _ (by decide) k868
              have k895 := ha_
              refine lv_aload_n hx hb dX2_open_164 rfl (lv_at hl 2 rfl) ?_
              refine t_getfd C h tf869 hu0 (by decide) wf_20 (v := .ref rq) k874 fl_X2_25 dX2_open_165 ?_
              refine lv_aload_n hx hb dX2_open_168 rfl (lv_at hl 2 rfl) ?_
              refine t_getfd C h tf869 hu0 (by decide) wf_20 (v := .int sY) k888 fl_X2_59 dX2_open_169 ?_
              refine t_put C h tf869 of869 trq (by decide) (by decide) (by decide) wf_23 fw_23 (k := 3) rfl flw_X2_69 (Or.inr ⟨_, _, _, rfl, rfl⟩) (v := .int sY) rfl rfl ⟨_, rfl, (iv_w hsY (by decide))⟩ dX2_open_172 (fun f896 H locs h tf896 of896 hq ha_ hn_ hk_ => ?_)
              have k897 := atp.tg k870 hq hu1 (by decide)
              have k898 := atp.tg k871 hq hu1 (by decide)
              have k899 := atp.tg k872 hq hu1 (by decide)
              have k900 := atp.tg k873 hq hwq (by decide)
              have k901 := atp.tg k874 hq hu0 (by decide)
              have k902 := atp.tg k875 hq hu0 (by decide)
              have k904 := atp.tg k878 hq hu0 (by decide)
              have k905 := atp.tg k879 hq hu0 (by decide)
              have k906 := atp.tg k880 hq hu0 (by decide)
              have k907 := atp.tg k881 hq hu0 (by decide)
              have k908 := atp.tg k882 hq hsq (by decide)
              have k909 := atp.tg k883 hq hoq (by decide)
              have k910 := atp.tg k884 hq hnq (by decide)
              have k911 := atp.tg k885 hq hxq (by decide)
              have k912 := atp.tg k886 hq hu0 (by decide)
              have k913 := atp.tg k887 hq hu0 (by decide)
              have k914 := atp.tg k888 hq hu0 (by decide)
              have k915 := atp.tg k889 hq tmq (by decide)
              have k916 := atp.tg k890 hq tmq (by decide)
              have k917 := atp.tg k891 hq tmq (by decide)
              have k918 := atp.tg k892 hq tmq (by decide)
              have k919 := hk_ 0 _ (by decide) k893
              have k920 := hk_ 1 _ (by decide) k894
              have k921 := hk_ 2 _ (by decide) k895
              have k922 := ha_
              refine lv_aload_n hx hb dX2_open_175 rfl (lv_at hl 2 rfl) ?_
              refine lv_aload_n hx hb dX2_open_176 rfl (lv_at hl 3 rfl) ?_
              obtain ⟨_, r923⟩ := t_rec tf896 hu0 (by decide) wf_20
              refine k_v (r_V C h hl (As := [.ref u1]) (rest := []) (s_X2_takeSteps l D G b0 τ f896 tf896 u0 hu0 u1 hu1 sq hsq k906 oq hoq k907 u2 hu2 k912 wq hwq k897 sh k908 wo k909 ww k900) r923 (Cn := RX2) (T := TX2) (N := 11) rfl rfl mk_X2_takeSteps w_675 w_677 w_13 w_678 ⟨Nat.le_of_ble_eq_true rfl, Nat.le_of_ble_eq_true rfl⟩ rfl (Nat.le_of_ble_eq_true rfl) ⟨Nat.le_of_ble_eq_true rfl, Nat.le_of_ble_eq_true rfl⟩ rfl dX2_open_177) h (fun f925 H locs p926 h => ?_)
              obtain ⟨tf925, ogf925, ⟨us_f925, bi_f925, sh1_f925, wo1_f925, ⟨kpu0_6f925, ipu0_6f925⟩, ⟨kpu0_7f925, ipu0_7f925⟩, kRsqf925, kRoqf925, jtf925⟩⟩ := p926
              have of925 : Fr [20, 21, 22, 23, 24, 25, 20007, 20008, 20009, 20010, 20011, 22001, 22002, 22003, 22004, 23001, 23002, 23003, 23004] τ f f925 := Fr.tr of896 ogf925 (by decide) (by decide)
              have k927 := atp.fr k897 ogf925 hu1 (by decide)
              have k928 := atp.fr k898 ogf925 hu1 (by decide)
              have k929 := atp.fr k899 ogf925 hu1 (by decide)
              have k930 := atp.fr k900 ogf925 hwq (by decide)
              have k931 := atp.fk k901 ogf925 hu0 (by decide) (by decide)
              have k932 := atp.fk k902 ogf925 hu0 (by decide) (by decide)
              have k933 := atp.fk k904 ogf925 hu0 (by decide) (by decide)
              have k934 := atp.fk k905 ogf925 hu0 (by decide) (by decide)
              have k935 := atp.fk k906 ogf925 hu0 (by decide) (by decide)
              have k936 := atp.fk k907 ogf925 hu0 (by decide) (by decide)
              have k937 := atp.fr k910 ogf925 hnq (by decide)
              have k938 := atp.fr k911 ogf925 hxq (by decide)
              have k939 := atp.fk k912 ogf925 hu0 (by decide) (by decide)
              have k940 := atp.fk k913 ogf925 hu0 (by decide) (by decide)
              have k941 := atp.fk k914 ogf925 hu0 (by decide) (by decide)
              have k942 := atp.fr k915 ogf925 tmq (by decide)
              have k943 := atp.fr k916 ogf925 tmq (by decide)
              have k944 := atp.fr k917 ogf925 tmq (by decide)
              have k945 := atp.fr k918 ogf925 tmq (by decide)
              have k946 := atp.fr k919 ogf925 trq (by decide)
              have k947 := atp.fr k920 ogf925 trq (by decide)
              have k948 := atp.fr k921 ogf925 trq (by decide)
              have k949 := atp.fr k922 ogf925 trq (by decide)
              refine lv_aload_n hx hb dX2_open_180 rfl (lv_at hl 2 rfl) ?_
              refine t_getfd C h tf925 hu0 (by decide) wf_20 (v := .ref nq) k933 fl_X2_11 dX2_open_181 ?_
              refine lv_aload_n hx hb dX2_open_184 rfl (lv_at hl 2 rfl) ?_
              refine lv_aload_n hx hb dX2_open_185 rfl (lv_at hl 2 rfl) ?_
              refine t_getfd C h tf925 hu0 (by decide) wf_20 (v := .int sX) k940 fl_X2_55 dX2_open_186 ?_
              refine lv_aload_n hx hb dX2_open_189 rfl (lv_at hl 2 rfl) ?_
              refine t_getfd C h tf925 hu0 (by decide) wf_20 (v := .int sY) k941 fl_X2_59 dX2_open_190 ?_
              obtain ⟨_, r950⟩ := t_rec tf925 hu0 (by decide) wf_20
              refine k_i (r_V C h hl (As := [.int sX, .int sY]) (rest := [.ref nq]) (s_X2_cell l D G b0 τ f925 tf925 u0 hu0 sX (iv_w hsX (by decide)) sY (iv_w hsY (by decide)) sX hsX k940 sY hsY k941) r950 (Cn := RX2) (T := TX2) (N := 11) rfl rfl mk_X2_cell w_671 w_673 w_12 w_674 ⟨Nat.le_of_ble_eq_true rfl, Nat.le_of_ble_eq_true rfl⟩ rfl (Nat.le_of_ble_eq_true rfl) ⟨Nat.le_of_ble_eq_true rfl, Nat.le_of_ble_eq_true rfl⟩ rfl dX2_open_193) h (fun r951 f952 H locs p953 h => ?_)
              obtain ⟨ir951, tf952, ogf952, x0r951⟩ := p953
              have egf952 := Fr.nil2 ogf952
              subst egf952
              refine lv_lconst (v := 1) hx hb dX2_open_196 (by decide) ?_
              refine e_last C h tf925 of925 hnq (by decide) (by decide) wf_21 fw_21 k937 (x := 1) (ix_o (by omega)) dX2_open_197 (fun R956 f954 erR956 H locs h tf954 of954 hq hn_ k955 => ?_)
              have k957 := atp.tg k927 hq hu1 (by decide)
              have k958 := atp.tg k928 hq hu1 (by decide)
              have k959 := atp.tg k929 hq hu1 (by decide)
              have k960 := atp.tg k930 hq hwq (by decide)
              have k961 := atp.tg k931 hq hu0 (by decide)
              have k962 := atp.tg k932 hq hu0 (by decide)
              have k963 := atp.tg k933 hq hu0 (by decide)
              have k964 := atp.tg k934 hq hu0 (by decide)
              have k965 := atp.tg k935 hq hu0 (by decide)
              have k966 := atp.tg k936 hq hu0 (by decide)
              have k968 := atp.tr k938 (hn_ xq hnx.symm)
              have k969 := atp.tg k939 hq hu0 (by decide)
              have k970 := atp.tg k940 hq hu0 (by decide)
              have k971 := atp.tg k941 hq hu0 (by decide)
              have k972 := atp.tg k942 hq tmq (by decide)
              have k973 := atp.tg k943 hq tmq (by decide)
              have k974 := atp.tg k944 hq tmq (by decide)
              have k975 := atp.tg k945 hq tmq (by decide)
              have k976 := atp.tg k946 hq trq (by decide)
              have k977 := atp.tg k947 hq trq (by decide)
              have k978 := atp.tg k948 hq trq (by decide)
              have k979 := atp.tg k949 hq trq (by decide)
              have k980 := atp.tg kpu0_6f925 hq hu0 (by decide)
              have k981 := atp.tg kpu0_7f925 hq hu0 (by decide)
              have k982 := atp.tg kRsqf925 hq hsq (by decide)
              have k983 := atp.tg kRoqf925 hq hoq (by decide)
              obtain ⟨ju_, jb_, js_⟩ := jtf925
              have hus_ := ju_
              rw [usw_c (V := fun t : Nat => vb (10 * vu + t).toNat) hvb.1 8 (Nat.le_refl 8)] at hus_
              have hbi_ := jb_
              rw [bitw_c (V := fun t : Nat => vb (10 * vu + t).toNat) hvb.1 8 (Nat.le_refl 8)] at hbi_
              have hst_ := stp_c (V := fun t : Nat => vb (10 * vu + t).toNat) hvb.1 js_
              have hP_ : ∀ x_ y_ : Int, sX.toInt - 60 ≤ x_ → x_ ≤ sX.toInt + 60 → sY.toInt - 60 ≤ y_ → y_ ≤ sY.toInt + 60 → ((fun x_ y_ => decide (insd u3.toInt x_ y_)) x_ y_ = true ↔ z700.toInt ≤ x_ ∧ x_ ≤ z759.toInt ∧ z731.toInt ≤ y_ ∧ y_ ≤ z787.toInt) := fun x_ y_ a1_ a2_ a3_ a4_ => by
                show decide (insd u3.toInt x_ y_) = true ↔ _
                rw [decide_eq_true_iff]
                constructor
                · intro z_; omega
                · intro z_; omega
              have gs_ : GS G τ f954 u0 rq mq vb vu (fun x_ y_ => decide (insd u3.toInt x_ y_)) u2.toInt 0 := ⟨nq, xq, sq, oq, R956, rx1_f3, wo1_f925, sh1_f925, sX, sY, sX, sY, sX, sY, z700, z731, z759, z787, us_f925, bi_f925, u2, ⟨hnx, ⟨hnq, hxq, hsq, hoq⟩, trq, tmq, hu0, ipu0_6f925⟩, ⟨⟨k963, k964, k962, k961⟩, ⟨k965, k966, k980, k981⟩, k969, k970, k971⟩, ⟨k976, k977, k978, k979⟩, ⟨k972, k973, k974, k975⟩, ⟨k955, k968, k982, k983⟩, GSv.init (r0 := rn1_f3) ⟨⟨hvb.2.1.1, hvb.2.1.2⟩, hvb.2.2, rfl, by omega, by omega⟩ ⟨hus_, hbi_⟩ hst_ hP_ ⟨⟨hsX, hsY, (iv_w iz700 (by decide)), (iv_w iz731 (by decide)), (iv_w iz759 (by decide)), (iv_w iz787 (by decide))⟩, ⟨by omega, by omega, by omega, by omega⟩, by omega, by omega, by omega, by omega⟩ pRnqf3 pRxqf3 (fun k => by rw [erR956, show r951.toInt.toNat = 7564 by omega]; rfl)⟩
              exact u_vret C h hr hQ (⟨tf954, of954, gs_, (GS.gj gs_)⟩) (Nat.le_of_ble_eq_true rfl) (Nat.le_of_ble_eq_true rfl) dX2_open_198
            · exact absurd c728 (by decide)
          · exact absurd c697 (by decide)
        · have c695 : u3.toInt = 1 := congrArg Int32.toInt c693
          have i696 : iv u3 1 1 := iv_Q c695 hu3 (iv_k (x := 1) (k := 1) rfl) (by decide)
          refine lv_iconst (v := 1) hx hb dX2_open_50 (by decide) ?_
          refine lv_goto (tgt := 55) hx hb dX2_open_51 (by decide) ?_
          refine lv_istore (lv' := [(5, .int 1), (4, .int 0), (0, .ref u0), (1, .ref u1), (2, .int u2), (3, .int u3)]) hx hb dX2_open_55 hl (by decide) rfl (fun ls hl => ?_)
          refine lv_aload_n hx hb dX2_open_57 rfl (lv_at hl 2 rfl) ?_
          refine t_getfd C h tf80 hu0 (by decide) wf_20 (v := .ref mq) k86 fl_X2_21 dX2_open_58 ?_
          refine lv_iload hx hb dX2_open_61 (lv_at hl 1 rfl) ?_
          refine lv_if_eq (tgt := 70) hx hb dX2_open_63 (by decide) (fun c984 => ?_) (fun c984 => ?_)
          · refine lv_aload_n hx hb dX2_open_70 rfl (lv_at hl 2 rfl) ?_
            refine t_getfd C h tf80 hu0 (by decide) wf_20 (v := .int sX) k105 fl_X2_55 dX2_open_71 ?_
            refine lv_bipush (v := 60) hx hb dX2_open_74 (by decide) ?_
            refine i_subk hx hb dX2_open_76 hsX (k := 60) rfl (lo := (-60)) (hi := (-51)) (by decide) (fun z987 ez987 mz987 iz987 => ?_)
            refine t_put C h tf80 of80 tmq (by decide) (by decide) (by decide) wf_22 fw_22 (k := 0) rfl flw_X2_60 (Or.inr ⟨_, _, _, rfl, rfl⟩) (v := .int z987) rfl rfl ⟨_, rfl, (iv_w iz987 (by decide))⟩ dX2_open_77 (fun f988 H locs h tf988 of988 hq ha_ hn_ hk_ => ?_)
            have k989 := atp.tg k81 hq hu1 (by decide)
            have k990 := atp.tg k82 hq hu1 (by decide)
            have k991 := atp.tg k83 hq hu1 (by decide)
            have k992 := atp.tg k84 hq hwq (by decide)
            have k993 := atp.tg k85 hq hu0 (by decide)
            have k994 := atp.tg k86 hq hu0 (by decide)
            have k995 := atp.tg k88 hq trq (by decide)
            have k996 := atp.tg k89 hq trq (by decide)
            have k997 := atp.tg k90 hq trq (by decide)
            have k998 := atp.tg k91 hq trq (by decide)
            have k1000 := hk_ 1 _ (by decide) k93
            have k1001 := hk_ 2 _ (by decide) k94
            have k1002 := hk_ 3 _ (by decide) k95
            have k1003 := atp.tg k96 hq hu0 (by decide)
            have k1004 := atp.tg k97 hq hu0 (by decide)
            have k1005 := atp.tg k98 hq hu0 (by decide)
            have k1006 := atp.tg k99 hq hu0 (by decide)
            have k1007 := atp.tg k100 hq hsq (by decide)
            have k1008 := atp.tg k101 hq hoq (by decide)
            have k1009 := atp.tg k102 hq hnq (by decide)
            have k1010 := atp.tg k103 hq hxq (by decide)
            have k1011 := atp.tg k104 hq hu0 (by decide)
            have k1012 := atp.tg k105 hq hu0 (by decide)
            have k1013 := atp.tg k106 hq hu0 (by decide)
            have k1014 := ha_
            refine lv_aload_n hx hb dX2_open_80 rfl (lv_at hl 2 rfl) ?_
            refine t_getfd C h tf988 hu0 (by decide) wf_20 (v := .ref mq) k994 fl_X2_21 dX2_open_81 ?_
            refine lv_iload hx hb dX2_open_84 (lv_at hl 0 rfl) ?_
            refine lv_if_eq (tgt := 93) hx hb dX2_open_86 (by decide) (fun c1015 => ?_) (fun c1015 => ?_)
            · exact absurd c1015 (by decide)
            · refine lv_iconst (v := 0) hx hb dX2_open_89 (by decide) ?_
              refine lv_goto (tgt := 100) hx hb dX2_open_90 (by decide) ?_
              refine t_put C h tf988 of988 tmq (by decide) (by decide) (by decide) wf_22 fw_22 (k := 1) rfl flw_X2_63 (Or.inr ⟨_, _, _, rfl, rfl⟩) (v := .int 0) rfl rfl ⟨_, rfl, ⟨by decide, by decide⟩⟩ dX2_open_100 (fun f1018 H locs h tf1018 of1018 hq ha_ hn_ hk_ => ?_)
              have k1019 := atp.tg k989 hq hu1 (by decide)
              have k1020 := atp.tg k990 hq hu1 (by decide)
              have k1021 := atp.tg k991 hq hu1 (by decide)
              have k1022 := atp.tg k992 hq hwq (by decide)
              have k1023 := atp.tg k993 hq hu0 (by decide)
              have k1024 := atp.tg k994 hq hu0 (by decide)
              have k1025 := atp.tg k995 hq trq (by decide)
              have k1026 := atp.tg k996 hq trq (by decide)
              have k1027 := atp.tg k997 hq trq (by decide)
              have k1028 := atp.tg k998 hq trq (by decide)
              have k1030 := hk_ 2 _ (by decide) k1001
              have k1031 := hk_ 3 _ (by decide) k1002
              have k1032 := atp.tg k1003 hq hu0 (by decide)
              have k1033 := atp.tg k1004 hq hu0 (by decide)
              have k1034 := atp.tg k1005 hq hu0 (by decide)
              have k1035 := atp.tg k1006 hq hu0 (by decide)
              have k1036 := atp.tg k1007 hq hsq (by decide)
              have k1037 := atp.tg k1008 hq hoq (by decide)
              have k1038 := atp.tg k1009 hq hnq (by decide)
              have k1039 := atp.tg k1010 hq hxq (by decide)
              have k1040 := atp.tg k1011 hq hu0 (by decide)
              have k1041 := atp.tg k1012 hq hu0 (by decide)
              have k1042 := atp.tg k1013 hq hu0 (by decide)
              have k1043 := hk_ 0 _ (by decide) k1014
              have k1044 := ha_
              refine lv_aload_n hx hb dX2_open_103 rfl (lv_at hl 2 rfl) ?_
              refine t_getfd C h tf1018 hu0 (by decide) wf_20 (v := .ref mq) k1024 fl_X2_21 dX2_open_104 ?_
              refine lv_aload_n hx hb dX2_open_107 rfl (lv_at hl 2 rfl) ?_
              refine t_getfd C h tf1018 hu0 (by decide) wf_20 (v := .int sX) k1041 fl_X2_55 dX2_open_108 ?_
              refine lv_bipush (v := 60) hx hb dX2_open_111 (by decide) ?_
              refine i_addk hx hb dX2_open_113 hsX (k := 60) rfl (lo := 60) (hi := 69) (by decide) (fun z1045 ez1045 mz1045 iz1045 => ?_)
              refine t_put C h tf1018 of1018 tmq (by decide) (by decide) (by decide) wf_22 fw_22 (k := 2) rfl flw_X2_66 (Or.inr ⟨_, _, _, rfl, rfl⟩) (v := .int z1045) rfl rfl ⟨_, rfl, (iv_w iz1045 (by decide))⟩ dX2_open_114 (fun f1046 H locs h tf1046 of1046 hq ha_ hn_ hk_ => ?_)
              have k1047 := atp.tg k1019 hq hu1 (by decide)
              have k1048 := atp.tg k1020 hq hu1 (by decide)
              have k1049 := atp.tg k1021 hq hu1 (by decide)
              have k1050 := atp.tg k1022 hq hwq (by decide)
              have k1051 := atp.tg k1023 hq hu0 (by decide)
              have k1052 := atp.tg k1024 hq hu0 (by decide)
              have k1053 := atp.tg k1025 hq trq (by decide)
              have k1054 := atp.tg k1026 hq trq (by decide)
              have k1055 := atp.tg k1027 hq trq (by decide)
              have k1056 := atp.tg k1028 hq trq (by decide)
              have k1058 := hk_ 3 _ (by decide) k1031
              have k1059 := atp.tg k1032 hq hu0 (by decide)
              have k1060 := atp.tg k1033 hq hu0 (by decide)
              have k1061 := atp.tg k1034 hq hu0 (by decide)
              have k1062 := atp.tg k1035 hq hu0 (by decide)
              have k1063 := atp.tg k1036 hq hsq (by decide)
              have k1064 := atp.tg k1037 hq hoq (by decide)
              have k1065 := atp.tg k1038 hq hnq (by decide)
              have k1066 := atp.tg k1039 hq hxq (by decide)
              have k1067 := atp.tg k1040 hq hu0 (by decide)
              have k1068 := atp.tg k1041 hq hu0 (by decide)
              have k1069 := atp.tg k1042 hq hu0 (by decide)
              have k1070 := hk_ 0 _ (by decide) k1043
              have k1071 := hk_ 1 _ (by decide) k1044
              have k1072 := ha_
              refine lv_aload_n hx hb dX2_open_117 rfl (lv_at hl 2 rfl) ?_
              refine t_getfd C h tf1046 hu0 (by decide) wf_20 (v := .ref mq) k1052 fl_X2_21 dX2_open_118 ?_
              refine lv_aload_n hx hb dX2_open_121 rfl (lv_at hl 2 rfl) ?_
              refine t_getfd C h tf1046 hu0 (by decide) wf_20 (v := .int sY) k1069 fl_X2_59 dX2_open_122 ?_
              refine lv_bipush (v := 60) hx hb dX2_open_125 (by decide) ?_
              refine i_addk hx hb dX2_open_127 hsY (k := 60) rfl (lo := 60) (hi := 69) (by decide) (fun z1073 ez1073 mz1073 iz1073 => ?_)
              refine t_put C h tf1046 of1046 tmq (by decide) (by decide) (by decide) wf_22 fw_22 (k := 3) rfl flw_X2_69 (Or.inr ⟨_, _, _, rfl, rfl⟩) (v := .int z1073) rfl rfl ⟨_, rfl, (iv_w iz1073 (by decide))⟩ dX2_open_128 (fun f1074 H locs h tf1074 of1074 hq ha_ hn_ hk_ => ?_)
              have k1075 := atp.tg k1047 hq hu1 (by decide)
              have k1076 := atp.tg k1048 hq hu1 (by decide)
              have k1077 := atp.tg k1049 hq hu1 (by decide)
              have k1078 := atp.tg k1050 hq hwq (by decide)
              have k1079 := atp.tg k1051 hq hu0 (by decide)
              have k1080 := atp.tg k1052 hq hu0 (by decide)
              have k1081 := atp.tg k1053 hq trq (by decide)
              have k1082 := atp.tg k1054 hq trq (by decide)
              have k1083 := atp.tg k1055 hq trq (by decide)
              have k1084 := atp.tg k1056 hq trq (by decide)
              have k1086 := atp.tg k1059 hq hu0 (by decide)
              have k1087 := atp.tg k1060 hq hu0 (by decide)
              have k1088 := atp.tg k1061 hq hu0 (by decide)
              have k1089 := atp.tg k1062 hq hu0 (by decide)
              have k1090 := atp.tg k1063 hq hsq (by decide)
              have k1091 := atp.tg k1064 hq hoq (by decide)
              have k1092 := atp.tg k1065 hq hnq (by decide)
              have k1093 := atp.tg k1066 hq hxq (by decide)
              have k1094 := atp.tg k1067 hq hu0 (by decide)
              have k1095 := atp.tg k1068 hq hu0 (by decide)
              have k1096 := atp.tg k1069 hq hu0 (by decide)
              have k1097 := hk_ 0 _ (by decide) k1070
              have k1098 := hk_ 1 _ (by decide) k1071
              have k1099 := hk_ 2 _ (by decide) k1072
              have k1100 := ha_
              refine lv_aload_n hx hb dX2_open_131 rfl (lv_at hl 2 rfl) ?_
              refine t_getfd C h tf1074 hu0 (by decide) wf_20 (v := .ref rq) k1079 fl_X2_25 dX2_open_132 ?_
              refine lv_aload_n hx hb dX2_open_135 rfl (lv_at hl 2 rfl) ?_
              refine t_getfd C h tf1074 hu0 (by decide) wf_20 (v := .int sX) k1095 fl_X2_55 dX2_open_136 ?_
              refine t_put C h tf1074 of1074 trq (by decide) (by decide) (by decide) wf_23 fw_23 (k := 0) rfl flw_X2_60 (Or.inr ⟨_, _, _, rfl, rfl⟩) (v := .int sX) rfl rfl ⟨_, rfl, (iv_w hsX (by decide))⟩ dX2_open_139 (fun f1101 H locs h tf1101 of1101 hq ha_ hn_ hk_ => ?_)
              have k1102 := atp.tg k1075 hq hu1 (by decide)
              have k1103 := atp.tg k1076 hq hu1 (by decide)
              have k1104 := atp.tg k1077 hq hu1 (by decide)
              have k1105 := atp.tg k1078 hq hwq (by decide)
              have k1106 := atp.tg k1079 hq hu0 (by decide)
              have k1107 := atp.tg k1080 hq hu0 (by decide)
              have k1109 := hk_ 1 _ (by decide) k1082
              have k1110 := hk_ 2 _ (by decide) k1083
              have k1111 := hk_ 3 _ (by decide) k1084
              have k1112 := atp.tg k1086 hq hu0 (by decide)
              have k1113 := atp.tg k1087 hq hu0 (by decide)
              have k1114 := atp.tg k1088 hq hu0 (by decide)
              have k1115 := atp.tg k1089 hq hu0 (by decide)
              have k1116 := atp.tg k1090 hq hsq (by decide)
              have k1117 := atp.tg k1091 hq hoq (by decide)
              have k1118 := atp.tg k1092 hq hnq (by decide)
              have k1119 := atp.tg k1093 hq hxq (by decide)
              have k1120 := atp.tg k1094 hq hu0 (by decide)
              have k1121 := atp.tg k1095 hq hu0 (by decide)
              have k1122 := atp.tg k1096 hq hu0 (by decide)
              have k1123 := atp.tg k1097 hq tmq (by decide)
              have k1124 := atp.tg k1098 hq tmq (by decide)
              have k1125 := atp.tg k1099 hq tmq (by decide)
              have k1126 := atp.tg k1100 hq tmq (by decide)
              have k1127 := ha_
              refine lv_aload_n hx hb dX2_open_142 rfl (lv_at hl 2 rfl) ?_
              refine t_getfd C h tf1101 hu0 (by decide) wf_20 (v := .ref rq) k1106 fl_X2_25 dX2_open_143 ?_
              refine lv_aload_n hx hb dX2_open_146 rfl (lv_at hl 2 rfl) ?_
              refine t_getfd C h tf1101 hu0 (by decide) wf_20 (v := .int sY) k1122 fl_X2_59 dX2_open_147 ?_
              refine t_put C h tf1101 of1101 trq (by decide) (by decide) (by decide) wf_23 fw_23 (k := 1) rfl flw_X2_63 (Or.inr ⟨_, _, _, rfl, rfl⟩) (v := .int sY) rfl rfl ⟨_, rfl, (iv_w hsY (by decide))⟩ dX2_open_150 (fun f1128 H locs h tf1128 of1128 hq ha_ hn_ hk_ => ?_)
              have k1129 := atp.tg k1102 hq hu1 (by decide)
              have k1130 := atp.tg k1103 hq hu1 (by decide)
              have k1131 := atp.tg k1104 hq hu1 (by decide)
              have k1132 := atp.tg k1105 hq hwq (by decide)
              have k1133 := atp.tg k1106 hq hu0 (by decide)
              have k1134 := atp.tg k1107 hq hu0 (by decide)
              have k1136 := hk_ 2 _ (by decide) k1110
              have k1137 := hk_ 3 _ (by decide) k1111
              have k1138 := atp.tg k1112 hq hu0 (by decide)
              have k1139 := atp.tg k1113 hq hu0 (by decide)
              have k1140 := atp.tg k1114 hq hu0 (by decide)
              have k1141 := atp.tg k1115 hq hu0 (by decide)
              have k1142 := atp.tg k1116 hq hsq (by decide)
              have k1143 := atp.tg k1117 hq hoq (by decide)
              have k1144 := atp.tg k1118 hq hnq (by decide)
              have k1145 := atp.tg k1119 hq hxq (by decide)
              have k1146 := atp.tg k1120 hq hu0 (by decide)
              have k1147 := atp.tg k1121 hq hu0 (by decide)
              have k1148 := atp.tg k1122 hq hu0 (by decide)
              have k1149 := atp.tg k1123 hq tmq (by decide)
              have k1150 := atp.tg k1124 hq tmq (by decide)
              have k1151 := atp.tg k1125 hq tmq (by decide)
              have k1152 := atp.tg k1126 hq tmq (by decide)
              have k1153 := hk_ 0 _ (by decide) k1127
              have k1154 := ha_
              refine lv_aload_n hx hb dX2_open_153 rfl (lv_at hl 2 rfl) ?_
              refine t_getfd C h tf1128 hu0 (by decide) wf_20 (v := .ref rq) k1133 fl_X2_25 dX2_open_154 ?_
              refine lv_aload_n hx hb dX2_open_157 rfl (lv_at hl 2 rfl) ?_
              refine t_getfd C h tf1128 hu0 (by decide) wf_20 (v := .int sX) k1147 fl_X2_55 dX2_open_158 ?_
              refine t_put C h tf1128 of1128 trq (by decide) (by decide) (by decide) wf_23 fw_23 (k := 2) rfl flw_X2_66 (Or.inr ⟨_, _, _, rfl, rfl⟩) (v := .int sX) rfl rfl ⟨_, rfl, (iv_w hsX (by decide))⟩ dX2_open_161 (fun f1155 H locs h tf1155 of1155 hq ha_ hn_ hk_ => ?_)
              have k1156 := atp.tg k1129 hq hu1 (by decide)
              have k1157 := atp.tg k1130 hq hu1 (by decide)
              have k1158 := atp.tg k1131 hq hu1 (by decide)
              have k1159 := atp.tg k1132 hq hwq (by decide)
              have k1160 := atp.tg k1133 hq hu0 (by decide)
              have k1161 := atp.tg k1134 hq hu0 (by decide)
              have k1163 := hk_ 3 _ (by decide) k1137
              have k1164 := atp.tg k1138 hq hu0 (by decide)
              have k1165 := atp.tg k1139 hq hu0 (by decide)
              have k1166 := atp.tg k1140 hq hu0 (by decide)
              have k1167 := atp.tg k1141 hq hu0 (by decide)
              have k1168 := atp.tg k1142 hq hsq (by decide)
              have k1169 := atp.tg k1143 hq hoq (by decide)
              have k1170 := atp.tg k1144 hq hnq (by decide)
              have k1171 := atp.tg k1145 hq hxq (by decide)
              have k1172 := atp.tg k1146 hq hu0 (by decide)
              have k1173 := atp.tg k1147 hq hu0 (by decide)
              have k1174 := atp.tg k1148 hq hu0 (by decide)
              have k1175 := atp.tg k1149 hq tmq (by decide)
              have k1176 := atp.tg k1150 hq tmq (by decide)
              have k1177 := atp.tg k1151 hq tmq (by decide)
              have k1178 := atp.tg k1152 hq tmq (by decide)
              have k1179 := hk_ 0 _ (by decide) k1153
              have k1180 := hk_ 1 _ (by decide) k1154
              have k1181 := ha_
              refine lv_aload_n hx hb dX2_open_164 rfl (lv_at hl 2 rfl) ?_
              refine t_getfd C h tf1155 hu0 (by decide) wf_20 (v := .ref rq) k1160 fl_X2_25 dX2_open_165 ?_
              refine lv_aload_n hx hb dX2_open_168 rfl (lv_at hl 2 rfl) ?_
              refine t_getfd C h tf1155 hu0 (by decide) wf_20 (v := .int sY) k1174 fl_X2_59 dX2_open_169 ?_
              refine t_put C h tf1155 of1155 trq (by decide) (by decide) (by decide) wf_23 fw_23 (k := 3) rfl flw_X2_69 (Or.inr ⟨_, _, _, rfl, rfl⟩) (v := .int sY) rfl rfl ⟨_, rfl, (iv_w hsY (by decide))⟩ dX2_open_172 (fun f1182 H locs h tf1182 of1182 hq ha_ hn_ hk_ => ?_)
              have k1183 := atp.tg k1156 hq hu1 (by decide)
              have k1184 := atp.tg k1157 hq hu1 (by decide)
              have k1185 := atp.tg k1158 hq hu1 (by decide)
              have k1186 := atp.tg k1159 hq hwq (by decide)
              have k1187 := atp.tg k1160 hq hu0 (by decide)
              have k1188 := atp.tg k1161 hq hu0 (by decide)
              have k1190 := atp.tg k1164 hq hu0 (by decide)
              have k1191 := atp.tg k1165 hq hu0 (by decide)
              have k1192 := atp.tg k1166 hq hu0 (by decide)
              have k1193 := atp.tg k1167 hq hu0 (by decide)
              have k1194 := atp.tg k1168 hq hsq (by decide)
              have k1195 := atp.tg k1169 hq hoq (by decide)
              have k1196 := atp.tg k1170 hq hnq (by decide)
              have k1197 := atp.tg k1171 hq hxq (by decide)
              have k1198 := atp.tg k1172 hq hu0 (by decide)
              have k1199 := atp.tg k1173 hq hu0 (by decide)
              have k1200 := atp.tg k1174 hq hu0 (by decide)
              have k1201 := atp.tg k1175 hq tmq (by decide)
              have k1202 := atp.tg k1176 hq tmq (by decide)
              have k1203 := atp.tg k1177 hq tmq (by decide)
              have k1204 := atp.tg k1178 hq tmq (by decide)
              have k1205 := hk_ 0 _ (by decide) k1179
              have k1206 := hk_ 1 _ (by decide) k1180
              have k1207 := hk_ 2 _ (by decide) k1181
              have k1208 := ha_
              refine lv_aload_n hx hb dX2_open_175 rfl (lv_at hl 2 rfl) ?_
              refine lv_aload_n hx hb dX2_open_176 rfl (lv_at hl 3 rfl) ?_
              obtain ⟨_, r1209⟩ := t_rec tf1182 hu0 (by decide) wf_20
              refine k_v (r_V C h hl (As := [.ref u1]) (rest := []) (s_X2_takeSteps l D G b0 τ f1182 tf1182 u0 hu0 u1 hu1 sq hsq k1192 oq hoq k1193 u2 hu2 k1198 wq hwq k1183 sh k1194 wo k1195 ww k1186) r1209 (Cn := RX2) (T := TX2) (N := 11) rfl rfl mk_X2_takeSteps w_675 w_677 w_13 w_678 ⟨Nat.le_of_ble_eq_true rfl, Nat.le_of_ble_eq_true rfl⟩ rfl (Nat.le_of_ble_eq_true rfl) ⟨Nat.le_of_ble_eq_true rfl, Nat.le_of_ble_eq_true rfl⟩ rfl dX2_open_177) h (fun f1211 H locs p1212 h => ?_)
              obtain ⟨tf1211, ogf1211, ⟨us_f1211, bi_f1211, sh1_f1211, wo1_f1211, ⟨kpu0_6f1211, ipu0_6f1211⟩, ⟨kpu0_7f1211, ipu0_7f1211⟩, kRsqf1211, kRoqf1211, jtf1211⟩⟩ := p1212
              have of1211 : Fr [20, 21, 22, 23, 24, 25, 20007, 20008, 20009, 20010, 20011, 22001, 22002, 22003, 22004, 23001, 23002, 23003, 23004] τ f f1211 := Fr.tr of1182 ogf1211 (by decide) (by decide)
              have k1213 := atp.fr k1183 ogf1211 hu1 (by decide)
              have k1214 := atp.fr k1184 ogf1211 hu1 (by decide)
              have k1215 := atp.fr k1185 ogf1211 hu1 (by decide)
              have k1216 := atp.fr k1186 ogf1211 hwq (by decide)
              have k1217 := atp.fk k1187 ogf1211 hu0 (by decide) (by decide)
              have k1218 := atp.fk k1188 ogf1211 hu0 (by decide) (by decide)
              have k1219 := atp.fk k1190 ogf1211 hu0 (by decide) (by decide)
              have k1220 := atp.fk k1191 ogf1211 hu0 (by decide) (by decide)
              have k1221 := atp.fk k1192 ogf1211 hu0 (by decide) (by decide)
              have k1222 := atp.fk k1193 ogf1211 hu0 (by decide) (by decide)
              have k1223 := atp.fr k1196 ogf1211 hnq (by decide)
              have k1224 := atp.fr k1197 ogf1211 hxq (by decide)
              have k1225 := atp.fk k1198 ogf1211 hu0 (by decide) (by decide)
              have k1226 := atp.fk k1199 ogf1211 hu0 (by decide) (by decide)
              have k1227 := atp.fk k1200 ogf1211 hu0 (by decide) (by decide)
              have k1228 := atp.fr k1201 ogf1211 tmq (by decide)
              have k1229 := atp.fr k1202 ogf1211 tmq (by decide)
              have k1230 := atp.fr k1203 ogf1211 tmq (by decide)
              have k1231 := atp.fr k1204 ogf1211 tmq (by decide)
              have k1232 := atp.fr k1205 ogf1211 trq (by decide)
              have k1233 := atp.fr k1206 ogf1211 trq (by decide)
              have k1234 := atp.fr k1207 ogf1211 trq (by decide)
              have k1235 := atp.fr k1208 ogf1211 trq (by decide)
              refine lv_aload_n hx hb dX2_open_180 rfl (lv_at hl 2 rfl) ?_
              refine t_getfd C h tf1211 hu0 (by decide) wf_20 (v := .ref nq) k1219 fl_X2_11 dX2_open_181 ?_
              refine lv_aload_n hx hb dX2_open_184 rfl (lv_at hl 2 rfl) ?_
              refine lv_aload_n hx hb dX2_open_185 rfl (lv_at hl 2 rfl) ?_
              refine t_getfd C h tf1211 hu0 (by decide) wf_20 (v := .int sX) k1226 fl_X2_55 dX2_open_186 ?_
              refine lv_aload_n hx hb dX2_open_189 rfl (lv_at hl 2 rfl) ?_
              refine t_getfd C h tf1211 hu0 (by decide) wf_20 (v := .int sY) k1227 fl_X2_59 dX2_open_190 ?_
              obtain ⟨_, r1236⟩ := t_rec tf1211 hu0 (by decide) wf_20
              refine k_i (r_V C h hl (As := [.int sX, .int sY]) (rest := [.ref nq]) (s_X2_cell l D G b0 τ f1211 tf1211 u0 hu0 sX (iv_w hsX (by decide)) sY (iv_w hsY (by decide)) sX hsX k1226 sY hsY k1227) r1236 (Cn := RX2) (T := TX2) (N := 11) rfl rfl mk_X2_cell w_671 w_673 w_12 w_674 ⟨Nat.le_of_ble_eq_true rfl, Nat.le_of_ble_eq_true rfl⟩ rfl (Nat.le_of_ble_eq_true rfl) ⟨Nat.le_of_ble_eq_true rfl, Nat.le_of_ble_eq_true rfl⟩ rfl dX2_open_193) h (fun r1237 f1238 H locs p1239 h => ?_)
              obtain ⟨ir1237, tf1238, ogf1238, x0r1237⟩ := p1239
              have egf1238 := Fr.nil2 ogf1238
              subst egf1238
              refine lv_lconst (v := 1) hx hb dX2_open_196 (by decide) ?_
              refine e_last C h tf1211 of1211 hnq (by decide) (by decide) wf_21 fw_21 k1223 (x := 1) (ix_o (by omega)) dX2_open_197 (fun R1242 f1240 erR1242 H locs h tf1240 of1240 hq hn_ k1241 => ?_)
              have k1243 := atp.tg k1213 hq hu1 (by decide)
              have k1244 := atp.tg k1214 hq hu1 (by decide)
              have k1245 := atp.tg k1215 hq hu1 (by decide)
              have k1246 := atp.tg k1216 hq hwq (by decide)
              have k1247 := atp.tg k1217 hq hu0 (by decide)
              have k1248 := atp.tg k1218 hq hu0 (by decide)
              have k1249 := atp.tg k1219 hq hu0 (by decide)
              have k1250 := atp.tg k1220 hq hu0 (by decide)
              have k1251 := atp.tg k1221 hq hu0 (by decide)
              have k1252 := atp.tg k1222 hq hu0 (by decide)
              have k1254 := atp.tr k1224 (hn_ xq hnx.symm)
              have k1255 := atp.tg k1225 hq hu0 (by decide)
              have k1256 := atp.tg k1226 hq hu0 (by decide)
              have k1257 := atp.tg k1227 hq hu0 (by decide)
              have k1258 := atp.tg k1228 hq tmq (by decide)
              have k1259 := atp.tg k1229 hq tmq (by decide)
              have k1260 := atp.tg k1230 hq tmq (by decide)
              have k1261 := atp.tg k1231 hq tmq (by decide)
              have k1262 := atp.tg k1232 hq trq (by decide)
              have k1263 := atp.tg k1233 hq trq (by decide)
              have k1264 := atp.tg k1234 hq trq (by decide)
              have k1265 := atp.tg k1235 hq trq (by decide)
              have k1266 := atp.tg kpu0_6f1211 hq hu0 (by decide)
              have k1267 := atp.tg kpu0_7f1211 hq hu0 (by decide)
              have k1268 := atp.tg kRsqf1211 hq hsq (by decide)
              have k1269 := atp.tg kRoqf1211 hq hoq (by decide)
              have nmq1_ : (0 : Int32).toInt = 0 := rfl
              obtain ⟨ju_, jb_, js_⟩ := jtf1211
              have hus_ := ju_
              rw [usw_c (V := fun t : Nat => vb (10 * vu + t).toNat) hvb.1 8 (Nat.le_refl 8)] at hus_
              have hbi_ := jb_
              rw [bitw_c (V := fun t : Nat => vb (10 * vu + t).toNat) hvb.1 8 (Nat.le_refl 8)] at hbi_
              have hst_ := stp_c (V := fun t : Nat => vb (10 * vu + t).toNat) hvb.1 js_
              have hP_ : ∀ x_ y_ : Int, sX.toInt - 60 ≤ x_ → x_ ≤ sX.toInt + 60 → sY.toInt - 60 ≤ y_ → y_ ≤ sY.toInt + 60 → ((fun x_ y_ => decide (insd u3.toInt x_ y_)) x_ y_ = true ↔ z987.toInt ≤ x_ ∧ x_ ≤ z1045.toInt ∧ 0 ≤ y_ ∧ y_ ≤ z1073.toInt) := fun x_ y_ a1_ a2_ a3_ a4_ => by
                show decide (insd u3.toInt x_ y_) = true ↔ _
                rw [decide_eq_true_iff]
                constructor
                · intro z_; omega
                · intro z_; omega
              have gs_ : GS G τ f1240 u0 rq mq vb vu (fun x_ y_ => decide (insd u3.toInt x_ y_)) u2.toInt 0 := ⟨nq, xq, sq, oq, R1242, rx1_f3, wo1_f1211, sh1_f1211, sX, sY, sX, sY, sX, sY, z987, 0, z1045, z1073, us_f1211, bi_f1211, u2, ⟨hnx, ⟨hnq, hxq, hsq, hoq⟩, trq, tmq, hu0, ipu0_6f1211⟩, ⟨⟨k1249, k1250, k1248, k1247⟩, ⟨k1251, k1252, k1266, k1267⟩, k1255, k1256, k1257⟩, ⟨k1262, k1263, k1264, k1265⟩, ⟨k1258, k1259, k1260, k1261⟩, ⟨k1241, k1254, k1268, k1269⟩, GSv.init (r0 := rn1_f3) ⟨⟨hvb.2.1.1, hvb.2.1.2⟩, hvb.2.2, rfl, by omega, by omega⟩ ⟨hus_, hbi_⟩ hst_ hP_ ⟨⟨hsX, hsY, (iv_w iz987 (by decide)), ⟨by decide, by decide⟩, (iv_w iz1045 (by decide)), (iv_w iz1073 (by decide))⟩, ⟨by omega, by omega, by omega, by omega⟩, by omega, by omega, by omega, by omega⟩ pRnqf3 pRxqf3 (fun k => by rw [erR1242, show r1237.toInt.toNat = 7564 by omega]; rfl)⟩
              exact u_vret C h hr hQ (⟨tf1240, of1240, gs_, (GS.gj gs_)⟩) (Nat.le_of_ble_eq_true rfl) (Nat.le_of_ble_eq_true rfl) dX2_open_198
          · exact absurd c984 (by decide)
    · have c401 : u3.toInt = 3 := congrArg Int32.toInt c399
      have i402 : iv u3 3 3 := iv_Q c401 hu3 (iv_k (x := 3) (k := 3) rfl) (by decide)
      refine lv_iconst (v := 1) hx hb dX2_open_34 (by decide) ?_
      refine lv_goto (tgt := 39) hx hb dX2_open_35 (by decide) ?_
      refine lv_istore (lv' := [(4, .int 1), (0, .ref u0), (1, .ref u1), (2, .int u2), (3, .int u3)]) hx hb dX2_open_39 hl (by decide) rfl (fun ls hl => ?_)
      refine lv_iload_n hx hb dX2_open_41 rfl (lv_at hl 4 rfl) ?_
      refine lv_if_eq (tgt := 50) hx hb dX2_open_42 (by decide) (fun c1270 => ?_) (fun c1270 => ?_)
      · have c1271 : u3.toInt = 0 := congrArg Int32.toInt c1270
        exact (iv_cq_ c1271 i402 (iv_k (x := 0) (k := 0) rfl) (by decide)).elim
      · have c1272 : u3.toInt ≠ 0 := fun z_ => c1270 (Int32.toInt_inj.mp z_)
        refine lv_iload_n hx hb dX2_open_45 rfl (lv_at hl 4 rfl) ?_
        refine lv_iconst (v := 1) hx hb dX2_open_46 (by decide) ?_
        refine lv_icmp_ne (tgt := 54) hx hb dX2_open_47 (by decide) (fun c1273 => ?_) (fun c1273 => ?_)
        · have c1274 : u3.toInt ≠ 1 := fun z_ => c1273 (Int32.toInt_inj.mp z_)
          refine lv_iconst (v := 0) hx hb dX2_open_54 (by decide) ?_
          refine lv_istore (lv' := [(5, .int 0), (4, .int 1), (0, .ref u0), (1, .ref u1), (2, .int u2), (3, .int u3)]) hx hb dX2_open_55 hl (by decide) rfl (fun ls hl => ?_)
          refine lv_aload_n hx hb dX2_open_57 rfl (lv_at hl 2 rfl) ?_
          refine t_getfd C h tf80 hu0 (by decide) wf_20 (v := .ref mq) k86 fl_X2_21 dX2_open_58 ?_
          refine lv_iload hx hb dX2_open_61 (lv_at hl 1 rfl) ?_
          refine lv_if_eq (tgt := 70) hx hb dX2_open_63 (by decide) (fun c1276 => ?_) (fun c1276 => ?_)
          · exact absurd c1276 (by decide)
          · refine lv_iconst (v := 0) hx hb dX2_open_66 (by decide) ?_
            refine lv_goto (tgt := 77) hx hb dX2_open_67 (by decide) ?_
            refine t_put C h tf80 of80 tmq (by decide) (by decide) (by decide) wf_22 fw_22 (k := 0) rfl flw_X2_60 (Or.inr ⟨_, _, _, rfl, rfl⟩) (v := .int 0) rfl rfl ⟨_, rfl, ⟨by decide, by decide⟩⟩ dX2_open_77 (fun f1279 H locs h tf1279 of1279 hq ha_ hn_ hk_ => ?_)
            have k1280 := atp.tg k81 hq hu1 (by decide)
            have k1281 := atp.tg k82 hq hu1 (by decide)
            have k1282 := atp.tg k83 hq hu1 (by decide)
            have k1283 := atp.tg k84 hq hwq (by decide)
            have k1284 := atp.tg k85 hq hu0 (by decide)
            have k1285 := atp.tg k86 hq hu0 (by decide)
            have k1286 := atp.tg k88 hq trq (by decide)
            have k1287 := atp.tg k89 hq trq (by decide)
            have k1288 := atp.tg k90 hq trq (by decide)
            have k1289 := atp.tg k91 hq trq (by decide)
            have k1291 := hk_ 1 _ (by decide) k93
            have k1292 := hk_ 2 _ (by decide) k94
            have k1293 := hk_ 3 _ (by decide) k95
            have k1294 := atp.tg k96 hq hu0 (by decide)
            have k1295 := atp.tg k97 hq hu0 (by decide)
            have k1296 := atp.tg k98 hq hu0 (by decide)
            have k1297 := atp.tg k99 hq hu0 (by decide)
            have k1298 := atp.tg k100 hq hsq (by decide)
            have k1299 := atp.tg k101 hq hoq (by decide)
            have k1300 := atp.tg k102 hq hnq (by decide)
            have k1301 := atp.tg k103 hq hxq (by decide)
            have k1302 := atp.tg k104 hq hu0 (by decide)
            have k1303 := atp.tg k105 hq hu0 (by decide)
            have k1304 := atp.tg k106 hq hu0 (by decide)
            have k1305 := ha_
            refine lv_aload_n hx hb dX2_open_80 rfl (lv_at hl 2 rfl) ?_
            refine t_getfd C h tf1279 hu0 (by decide) wf_20 (v := .ref mq) k1285 fl_X2_21 dX2_open_81 ?_
            refine lv_iload hx hb dX2_open_84 (lv_at hl 0 rfl) ?_
            refine lv_if_eq (tgt := 93) hx hb dX2_open_86 (by decide) (fun c1306 => ?_) (fun c1306 => ?_)
            · refine lv_aload_n hx hb dX2_open_93 rfl (lv_at hl 2 rfl) ?_
              refine t_getfd C h tf1279 hu0 (by decide) wf_20 (v := .int sY) k1304 fl_X2_59 dX2_open_94 ?_
              refine lv_bipush (v := 60) hx hb dX2_open_97 (by decide) ?_
              refine i_subk hx hb dX2_open_99 hsY (k := 60) rfl (lo := (-60)) (hi := (-51)) (by decide) (fun z1309 ez1309 mz1309 iz1309 => ?_)
              refine t_put C h tf1279 of1279 tmq (by decide) (by decide) (by decide) wf_22 fw_22 (k := 1) rfl flw_X2_63 (Or.inr ⟨_, _, _, rfl, rfl⟩) (v := .int z1309) rfl rfl ⟨_, rfl, (iv_w iz1309 (by decide))⟩ dX2_open_100 (fun f1310 H locs h tf1310 of1310 hq ha_ hn_ hk_ => ?_)
              have k1311 := atp.tg k1280 hq hu1 (by decide)
              have k1312 := atp.tg k1281 hq hu1 (by decide)
              have k1313 := atp.tg k1282 hq hu1 (by decide)
              have k1314 := atp.tg k1283 hq hwq (by decide)
              have k1315 := atp.tg k1284 hq hu0 (by decide)
              have k1316 := atp.tg k1285 hq hu0 (by decide)
              have k1317 := atp.tg k1286 hq trq (by decide)
              have k1318 := atp.tg k1287 hq trq (by decide)
              have k1319 := atp.tg k1288 hq trq (by decide)
              have k1320 := atp.tg k1289 hq trq (by decide)
              have k1322 := hk_ 2 _ (by decide) k1292
              have k1323 := hk_ 3 _ (by decide) k1293
              have k1324 := atp.tg k1294 hq hu0 (by decide)
              have k1325 := atp.tg k1295 hq hu0 (by decide)
              have k1326 := atp.tg k1296 hq hu0 (by decide)
              have k1327 := atp.tg k1297 hq hu0 (by decide)
              have k1328 := atp.tg k1298 hq hsq (by decide)
              have k1329 := atp.tg k1299 hq hoq (by decide)
              have k1330 := atp.tg k1300 hq hnq (by decide)
              have k1331 := atp.tg k1301 hq hxq (by decide)
              have k1332 := atp.tg k1302 hq hu0 (by decide)
              have k1333 := atp.tg k1303 hq hu0 (by decide)
              have k1334 := atp.tg k1304 hq hu0 (by decide)
              have k1335 := hk_ 0 _ (by decide) k1305
              have k1336 := ha_
              refine lv_aload_n hx hb dX2_open_103 rfl (lv_at hl 2 rfl) ?_
              refine t_getfd C h tf1310 hu0 (by decide) wf_20 (v := .ref mq) k1316 fl_X2_21 dX2_open_104 ?_
              refine lv_aload_n hx hb dX2_open_107 rfl (lv_at hl 2 rfl) ?_
              refine t_getfd C h tf1310 hu0 (by decide) wf_20 (v := .int sX) k1333 fl_X2_55 dX2_open_108 ?_
              refine lv_bipush (v := 60) hx hb dX2_open_111 (by decide) ?_
              refine i_addk hx hb dX2_open_113 hsX (k := 60) rfl (lo := 60) (hi := 69) (by decide) (fun z1337 ez1337 mz1337 iz1337 => ?_)
              refine t_put C h tf1310 of1310 tmq (by decide) (by decide) (by decide) wf_22 fw_22 (k := 2) rfl flw_X2_66 (Or.inr ⟨_, _, _, rfl, rfl⟩) (v := .int z1337) rfl rfl ⟨_, rfl, (iv_w iz1337 (by decide))⟩ dX2_open_114 (fun f1338 H locs h tf1338 of1338 hq ha_ hn_ hk_ => ?_)
              have k1339 := atp.tg k1311 hq hu1 (by decide)
              have k1340 := atp.tg k1312 hq hu1 (by decide)
              have k1341 := atp.tg k1313 hq hu1 (by decide)
              have k1342 := atp.tg k1314 hq hwq (by decide)
              have k1343 := atp.tg k1315 hq hu0 (by decide)
              have k1344 := atp.tg k1316 hq hu0 (by decide)
              have k1345 := atp.tg k1317 hq trq (by decide)
              have k1346 := atp.tg k1318 hq trq (by decide)
              have k1347 := atp.tg k1319 hq trq (by decide)
              have k1348 := atp.tg k1320 hq trq (by decide)
              have k1350 := hk_ 3 _ (by decide) k1323
              have k1351 := atp.tg k1324 hq hu0 (by decide)
              have k1352 := atp.tg k1325 hq hu0 (by decide)
              have k1353 := atp.tg k1326 hq hu0 (by decide)
              have k1354 := atp.tg k1327 hq hu0 (by decide)
              have k1355 := atp.tg k1328 hq hsq (by decide)
              have k1356 := atp.tg k1329 hq hoq (by decide)
              have k1357 := atp.tg k1330 hq hnq (by decide)
              have k1358 := atp.tg k1331 hq hxq (by decide)
              have k1359 := atp.tg k1332 hq hu0 (by decide)
              have k1360 := atp.tg k1333 hq hu0 (by decide)
              have k1361 := atp.tg k1334 hq hu0 (by decide)
              have k1362 := hk_ 0 _ (by decide) k1335
              have k1363 := hk_ 1 _ (by decide) k1336
              have k1364 := ha_
              refine lv_aload_n hx hb dX2_open_117 rfl (lv_at hl 2 rfl) ?_
              refine t_getfd C h tf1338 hu0 (by decide) wf_20 (v := .ref mq) k1344 fl_X2_21 dX2_open_118 ?_
              refine lv_aload_n hx hb dX2_open_121 rfl (lv_at hl 2 rfl) ?_
              refine t_getfd C h tf1338 hu0 (by decide) wf_20 (v := .int sY) k1361 fl_X2_59 dX2_open_122 ?_
              refine lv_bipush (v := 60) hx hb dX2_open_125 (by decide) ?_
              refine i_addk hx hb dX2_open_127 hsY (k := 60) rfl (lo := 60) (hi := 69) (by decide) (fun z1365 ez1365 mz1365 iz1365 => ?_)
              refine t_put C h tf1338 of1338 tmq (by decide) (by decide) (by decide) wf_22 fw_22 (k := 3) rfl flw_X2_69 (Or.inr ⟨_, _, _, rfl, rfl⟩) (v := .int z1365) rfl rfl ⟨_, rfl, (iv_w iz1365 (by decide))⟩ dX2_open_128 (fun f1366 H locs h tf1366 of1366 hq ha_ hn_ hk_ => ?_)
              have k1367 := atp.tg k1339 hq hu1 (by decide)
              have k1368 := atp.tg k1340 hq hu1 (by decide)
              have k1369 := atp.tg k1341 hq hu1 (by decide)
              have k1370 := atp.tg k1342 hq hwq (by decide)
              have k1371 := atp.tg k1343 hq hu0 (by decide)
              have k1372 := atp.tg k1344 hq hu0 (by decide)
              have k1373 := atp.tg k1345 hq trq (by decide)
              have k1374 := atp.tg k1346 hq trq (by decide)
              have k1375 := atp.tg k1347 hq trq (by decide)
              have k1376 := atp.tg k1348 hq trq (by decide)
              have k1378 := atp.tg k1351 hq hu0 (by decide)
              have k1379 := atp.tg k1352 hq hu0 (by decide)
              have k1380 := atp.tg k1353 hq hu0 (by decide)
              have k1381 := atp.tg k1354 hq hu0 (by decide)
              have k1382 := atp.tg k1355 hq hsq (by decide)
              have k1383 := atp.tg k1356 hq hoq (by decide)
              have k1384 := atp.tg k1357 hq hnq (by decide)
              have k1385 := atp.tg k1358 hq hxq (by decide)
              have k1386 := atp.tg k1359 hq hu0 (by decide)
              have k1387 := atp.tg k1360 hq hu0 (by decide)
              have k1388 := atp.tg k1361 hq hu0 (by decide)
              have k1389 := hk_ 0 _ (by decide) k1362
              have k1390 := hk_ 1 _ (by decide) k1363
              have k1391 := hk_ 2 _ (by decide) k1364
              have k1392 := ha_
              refine lv_aload_n hx hb dX2_open_131 rfl (lv_at hl 2 rfl) ?_
              refine t_getfd C h tf1366 hu0 (by decide) wf_20 (v := .ref rq) k1371 fl_X2_25 dX2_open_132 ?_
              refine lv_aload_n hx hb dX2_open_135 rfl (lv_at hl 2 rfl) ?_
              refine t_getfd C h tf1366 hu0 (by decide) wf_20 (v := .int sX) k1387 fl_X2_55 dX2_open_136 ?_
              refine t_put C h tf1366 of1366 trq (by decide) (by decide) (by decide) wf_23 fw_23 (k := 0) rfl flw_X2_60 (Or.inr ⟨_, _, _, rfl, rfl⟩) (v := .int sX) rfl rfl ⟨_, rfl, (iv_w hsX (by decide))⟩ dX2_open_139 (fun f1393 H locs h tf1393 of1393 hq ha_ hn_ hk_ => ?_)
              have k1394 := atp.tg k1367 hq hu1 (by decide)
              have k1395 := atp.tg k1368 hq hu1 (by decide)
              have k1396 := atp.tg k1369 hq hu1 (by decide)
              have k1397 := atp.tg k1370 hq hwq (by decide)
              have k1398 := atp.tg k1371 hq hu0 (by decide)
              have k1399 := atp.tg k1372 hq hu0 (by decide)
              have k1401 := hk_ 1 _ (by decide) k1374
              have k1402 := hk_ 2 _ (by decide) k1375
              have k1403 := hk_ 3 _ (by decide) k1376
              have k1404 := atp.tg k1378 hq hu0 (by decide)
              have k1405 := atp.tg k1379 hq hu0 (by decide)
              have k1406 := atp.tg k1380 hq hu0 (by decide)
              have k1407 := atp.tg k1381 hq hu0 (by decide)
              have k1408 := atp.tg k1382 hq hsq (by decide)
              have k1409 := atp.tg k1383 hq hoq (by decide)
              have k1410 := atp.tg k1384 hq hnq (by decide)
              have k1411 := atp.tg k1385 hq hxq (by decide)
              have k1412 := atp.tg k1386 hq hu0 (by decide)
              have k1413 := atp.tg k1387 hq hu0 (by decide)
              have k1414 := atp.tg k1388 hq hu0 (by decide)
              have k1415 := atp.tg k1389 hq tmq (by decide)
              have k1416 := atp.tg k1390 hq tmq (by decide)
              have k1417 := atp.tg k1391 hq tmq (by decide)
              have k1418 := atp.tg k1392 hq tmq (by decide)
              have k1419 := ha_
              refine lv_aload_n hx hb dX2_open_142 rfl (lv_at hl 2 rfl) ?_
              refine t_getfd C h tf1393 hu0 (by decide) wf_20 (v := .ref rq) k1398 fl_X2_25 dX2_open_143 ?_
              refine lv_aload_n hx hb dX2_open_146 rfl (lv_at hl 2 rfl) ?_
              refine t_getfd C h tf1393 hu0 (by decide) wf_20 (v := .int sY) k1414 fl_X2_59 dX2_open_147 ?_
              refine t_put C h tf1393 of1393 trq (by decide) (by decide) (by decide) wf_23 fw_23 (k := 1) rfl flw_X2_63 (Or.inr ⟨_, _, _, rfl, rfl⟩) (v := .int sY) rfl rfl ⟨_, rfl, (iv_w hsY (by decide))⟩ dX2_open_150 (fun f1420 H locs h tf1420 of1420 hq ha_ hn_ hk_ => ?_)
              have k1421 := atp.tg k1394 hq hu1 (by decide)
              have k1422 := atp.tg k1395 hq hu1 (by decide)
              have k1423 := atp.tg k1396 hq hu1 (by decide)
              have k1424 := atp.tg k1397 hq hwq (by decide)
              have k1425 := atp.tg k1398 hq hu0 (by decide)
              have k1426 := atp.tg k1399 hq hu0 (by decide)
              have k1428 := hk_ 2 _ (by decide) k1402
              have k1429 := hk_ 3 _ (by decide) k1403
              have k1430 := atp.tg k1404 hq hu0 (by decide)
              have k1431 := atp.tg k1405 hq hu0 (by decide)
              have k1432 := atp.tg k1406 hq hu0 (by decide)
              have k1433 := atp.tg k1407 hq hu0 (by decide)
              have k1434 := atp.tg k1408 hq hsq (by decide)
              have k1435 := atp.tg k1409 hq hoq (by decide)
              have k1436 := atp.tg k1410 hq hnq (by decide)
              have k1437 := atp.tg k1411 hq hxq (by decide)
              have k1438 := atp.tg k1412 hq hu0 (by decide)
              have k1439 := atp.tg k1413 hq hu0 (by decide)
              have k1440 := atp.tg k1414 hq hu0 (by decide)
              have k1441 := atp.tg k1415 hq tmq (by decide)
              have k1442 := atp.tg k1416 hq tmq (by decide)
              have k1443 := atp.tg k1417 hq tmq (by decide)
              have k1444 := atp.tg k1418 hq tmq (by decide)
              have k1445 := hk_ 0 _ (by decide) k1419
              have k1446 := ha_
              refine lv_aload_n hx hb dX2_open_153 rfl (lv_at hl 2 rfl) ?_
              refine t_getfd C h tf1420 hu0 (by decide) wf_20 (v := .ref rq) k1425 fl_X2_25 dX2_open_154 ?_
              refine lv_aload_n hx hb dX2_open_157 rfl (lv_at hl 2 rfl) ?_
              refine t_getfd C h tf1420 hu0 (by decide) wf_20 (v := .int sX) k1439 fl_X2_55 dX2_open_158 ?_
              refine t_put C h tf1420 of1420 trq (by decide) (by decide) (by decide) wf_23 fw_23 (k := 2) rfl flw_X2_66 (Or.inr ⟨_, _, _, rfl, rfl⟩) (v := .int sX) rfl rfl ⟨_, rfl, (iv_w hsX (by decide))⟩ dX2_open_161 (fun f1447 H locs h tf1447 of1447 hq ha_ hn_ hk_ => ?_)
              have k1448 := atp.tg k1421 hq hu1 (by decide)
              have k1449 := atp.tg k1422 hq hu1 (by decide)
              have k1450 := atp.tg k1423 hq hu1 (by decide)
              have k1451 := atp.tg k1424 hq hwq (by decide)
              have k1452 := atp.tg k1425 hq hu0 (by decide)
              have k1453 := atp.tg k1426 hq hu0 (by decide)
              have k1455 := hk_ 3 _ (by decide) k1429
              have k1456 := atp.tg k1430 hq hu0 (by decide)
              have k1457 := atp.tg k1431 hq hu0 (by decide)
              have k1458 := atp.tg k1432 hq hu0 (by decide)
              have k1459 := atp.tg k1433 hq hu0 (by decide)
              have k1460 := atp.tg k1434 hq hsq (by decide)
              have k1461 := atp.tg k1435 hq hoq (by decide)
              have k1462 := atp.tg k1436 hq hnq (by decide)
              have k1463 := atp.tg k1437 hq hxq (by decide)
              have k1464 := atp.tg k1438 hq hu0 (by decide)
              have k1465 := atp.tg k1439 hq hu0 (by decide)
              have k1466 := atp.tg k1440 hq hu0 (by decide)
              have k1467 := atp.tg k1441 hq tmq (by decide)
              have k1468 := atp.tg k1442 hq tmq (by decide)
              have k1469 := atp.tg k1443 hq tmq (by decide)
              have k1470 := atp.tg k1444 hq tmq (by decide)
              have k1471 := hk_ 0 _ (by decide) k1445
              have k1472 := hk_ 1 _ (by decide) k1446
              have k1473 := ha_
              refine lv_aload_n hx hb dX2_open_164 rfl (lv_at hl 2 rfl) ?_
              refine t_getfd C h tf1447 hu0 (by decide) wf_20 (v := .ref rq) k1452 fl_X2_25 dX2_open_165 ?_
              refine lv_aload_n hx hb dX2_open_168 rfl (lv_at hl 2 rfl) ?_
              refine t_getfd C h tf1447 hu0 (by decide) wf_20 (v := .int sY) k1466 fl_X2_59 dX2_open_169 ?_
              refine t_put C h tf1447 of1447 trq (by decide) (by decide) (by decide) wf_23 fw_23 (k := 3) rfl flw_X2_69 (Or.inr ⟨_, _, _, rfl, rfl⟩) (v := .int sY) rfl rfl ⟨_, rfl, (iv_w hsY (by decide))⟩ dX2_open_172 (fun f1474 H locs h tf1474 of1474 hq ha_ hn_ hk_ => ?_)
              have k1475 := atp.tg k1448 hq hu1 (by decide)
              have k1476 := atp.tg k1449 hq hu1 (by decide)
              have k1477 := atp.tg k1450 hq hu1 (by decide)
              have k1478 := atp.tg k1451 hq hwq (by decide)
              have k1479 := atp.tg k1452 hq hu0 (by decide)
              have k1480 := atp.tg k1453 hq hu0 (by decide)
              have k1482 := atp.tg k1456 hq hu0 (by decide)
              have k1483 := atp.tg k1457 hq hu0 (by decide)
              have k1484 := atp.tg k1458 hq hu0 (by decide)
              have k1485 := atp.tg k1459 hq hu0 (by decide)
              have k1486 := atp.tg k1460 hq hsq (by decide)
              have k1487 := atp.tg k1461 hq hoq (by decide)
              have k1488 := atp.tg k1462 hq hnq (by decide)
              have k1489 := atp.tg k1463 hq hxq (by decide)
              have k1490 := atp.tg k1464 hq hu0 (by decide)
              have k1491 := atp.tg k1465 hq hu0 (by decide)
              have k1492 := atp.tg k1466 hq hu0 (by decide)
              have k1493 := atp.tg k1467 hq tmq (by decide)
              have k1494 := atp.tg k1468 hq tmq (by decide)
              have k1495 := atp.tg k1469 hq tmq (by decide)
              have k1496 := atp.tg k1470 hq tmq (by decide)
              have k1497 := hk_ 0 _ (by decide) k1471
              have k1498 := hk_ 1 _ (by decide) k1472
              have k1499 := hk_ 2 _ (by decide) k1473
              have k1500 := ha_
              refine lv_aload_n hx hb dX2_open_175 rfl (lv_at hl 2 rfl) ?_
              refine lv_aload_n hx hb dX2_open_176 rfl (lv_at hl 3 rfl) ?_
              obtain ⟨_, r1501⟩ := t_rec tf1474 hu0 (by decide) wf_20
              refine k_v (r_V C h hl (As := [.ref u1]) (rest := []) (s_X2_takeSteps l D G b0 τ f1474 tf1474 u0 hu0 u1 hu1 sq hsq k1484 oq hoq k1485 u2 hu2 k1490 wq hwq k1475 sh k1486 wo k1487 ww k1478) r1501 (Cn := RX2) (T := TX2) (N := 11) rfl rfl mk_X2_takeSteps w_675 w_677 w_13 w_678 ⟨Nat.le_of_ble_eq_true rfl, Nat.le_of_ble_eq_true rfl⟩ rfl (Nat.le_of_ble_eq_true rfl) ⟨Nat.le_of_ble_eq_true rfl, Nat.le_of_ble_eq_true rfl⟩ rfl dX2_open_177) h (fun f1503 H locs p1504 h => ?_)
              obtain ⟨tf1503, ogf1503, ⟨us_f1503, bi_f1503, sh1_f1503, wo1_f1503, ⟨kpu0_6f1503, ipu0_6f1503⟩, ⟨kpu0_7f1503, ipu0_7f1503⟩, kRsqf1503, kRoqf1503, jtf1503⟩⟩ := p1504
              have of1503 : Fr [20, 21, 22, 23, 24, 25, 20007, 20008, 20009, 20010, 20011, 22001, 22002, 22003, 22004, 23001, 23002, 23003, 23004] τ f f1503 := Fr.tr of1474 ogf1503 (by decide) (by decide)
              have k1505 := atp.fr k1475 ogf1503 hu1 (by decide)
              have k1506 := atp.fr k1476 ogf1503 hu1 (by decide)
              have k1507 := atp.fr k1477 ogf1503 hu1 (by decide)
              have k1508 := atp.fr k1478 ogf1503 hwq (by decide)
              have k1509 := atp.fk k1479 ogf1503 hu0 (by decide) (by decide)
              have k1510 := atp.fk k1480 ogf1503 hu0 (by decide) (by decide)
              have k1511 := atp.fk k1482 ogf1503 hu0 (by decide) (by decide)
              have k1512 := atp.fk k1483 ogf1503 hu0 (by decide) (by decide)
              have k1513 := atp.fk k1484 ogf1503 hu0 (by decide) (by decide)
              have k1514 := atp.fk k1485 ogf1503 hu0 (by decide) (by decide)
              have k1515 := atp.fr k1488 ogf1503 hnq (by decide)
              have k1516 := atp.fr k1489 ogf1503 hxq (by decide)
              have k1517 := atp.fk k1490 ogf1503 hu0 (by decide) (by decide)
              have k1518 := atp.fk k1491 ogf1503 hu0 (by decide) (by decide)
              have k1519 := atp.fk k1492 ogf1503 hu0 (by decide) (by decide)
              have k1520 := atp.fr k1493 ogf1503 tmq (by decide)
              have k1521 := atp.fr k1494 ogf1503 tmq (by decide)
              have k1522 := atp.fr k1495 ogf1503 tmq (by decide)
              have k1523 := atp.fr k1496 ogf1503 tmq (by decide)
              have k1524 := atp.fr k1497 ogf1503 trq (by decide)
              have k1525 := atp.fr k1498 ogf1503 trq (by decide)
              have k1526 := atp.fr k1499 ogf1503 trq (by decide)
              have k1527 := atp.fr k1500 ogf1503 trq (by decide)
              refine lv_aload_n hx hb dX2_open_180 rfl (lv_at hl 2 rfl) ?_
              refine t_getfd C h tf1503 hu0 (by decide) wf_20 (v := .ref nq) k1511 fl_X2_11 dX2_open_181 ?_
              refine lv_aload_n hx hb dX2_open_184 rfl (lv_at hl 2 rfl) ?_
              refine lv_aload_n hx hb dX2_open_185 rfl (lv_at hl 2 rfl) ?_
              refine t_getfd C h tf1503 hu0 (by decide) wf_20 (v := .int sX) k1518 fl_X2_55 dX2_open_186 ?_
              refine lv_aload_n hx hb dX2_open_189 rfl (lv_at hl 2 rfl) ?_
              refine t_getfd C h tf1503 hu0 (by decide) wf_20 (v := .int sY) k1519 fl_X2_59 dX2_open_190 ?_
              obtain ⟨_, r1528⟩ := t_rec tf1503 hu0 (by decide) wf_20
              refine k_i (r_V C h hl (As := [.int sX, .int sY]) (rest := [.ref nq]) (s_X2_cell l D G b0 τ f1503 tf1503 u0 hu0 sX (iv_w hsX (by decide)) sY (iv_w hsY (by decide)) sX hsX k1518 sY hsY k1519) r1528 (Cn := RX2) (T := TX2) (N := 11) rfl rfl mk_X2_cell w_671 w_673 w_12 w_674 ⟨Nat.le_of_ble_eq_true rfl, Nat.le_of_ble_eq_true rfl⟩ rfl (Nat.le_of_ble_eq_true rfl) ⟨Nat.le_of_ble_eq_true rfl, Nat.le_of_ble_eq_true rfl⟩ rfl dX2_open_193) h (fun r1529 f1530 H locs p1531 h => ?_)
              obtain ⟨ir1529, tf1530, ogf1530, x0r1529⟩ := p1531
              have egf1530 := Fr.nil2 ogf1530
              subst egf1530
              refine lv_lconst (v := 1) hx hb dX2_open_196 (by decide) ?_
              refine e_last C h tf1503 of1503 hnq (by decide) (by decide) wf_21 fw_21 k1515 (x := 1) (ix_o (by omega)) dX2_open_197 (fun R1534 f1532 erR1534 H locs h tf1532 of1532 hq hn_ k1533 => ?_)
              have k1535 := atp.tg k1505 hq hu1 (by decide)
              have k1536 := atp.tg k1506 hq hu1 (by decide)
              have k1537 := atp.tg k1507 hq hu1 (by decide)
              have k1538 := atp.tg k1508 hq hwq (by decide)
              have k1539 := atp.tg k1509 hq hu0 (by decide)
              have k1540 := atp.tg k1510 hq hu0 (by decide)
              have k1541 := atp.tg k1511 hq hu0 (by decide)
              have k1542 := atp.tg k1512 hq hu0 (by decide)
              have k1543 := atp.tg k1513 hq hu0 (by decide)
              have k1544 := atp.tg k1514 hq hu0 (by decide)
              have k1546 := atp.tr k1516 (hn_ xq hnx.symm)
              have k1547 := atp.tg k1517 hq hu0 (by decide)
              have k1548 := atp.tg k1518 hq hu0 (by decide)
              have k1549 := atp.tg k1519 hq hu0 (by decide)
              have k1550 := atp.tg k1520 hq tmq (by decide)
              have k1551 := atp.tg k1521 hq tmq (by decide)
              have k1552 := atp.tg k1522 hq tmq (by decide)
              have k1553 := atp.tg k1523 hq tmq (by decide)
              have k1554 := atp.tg k1524 hq trq (by decide)
              have k1555 := atp.tg k1525 hq trq (by decide)
              have k1556 := atp.tg k1526 hq trq (by decide)
              have k1557 := atp.tg k1527 hq trq (by decide)
              have k1558 := atp.tg kpu0_6f1503 hq hu0 (by decide)
              have k1559 := atp.tg kpu0_7f1503 hq hu0 (by decide)
              have k1560 := atp.tg kRsqf1503 hq hsq (by decide)
              have k1561 := atp.tg kRoqf1503 hq hoq (by decide)
              have nmq0_ : (0 : Int32).toInt = 0 := rfl
              obtain ⟨ju_, jb_, js_⟩ := jtf1503
              have hus_ := ju_
              rw [usw_c (V := fun t : Nat => vb (10 * vu + t).toNat) hvb.1 8 (Nat.le_refl 8)] at hus_
              have hbi_ := jb_
              rw [bitw_c (V := fun t : Nat => vb (10 * vu + t).toNat) hvb.1 8 (Nat.le_refl 8)] at hbi_
              have hst_ := stp_c (V := fun t : Nat => vb (10 * vu + t).toNat) hvb.1 js_
              have hP_ : ∀ x_ y_ : Int, sX.toInt - 60 ≤ x_ → x_ ≤ sX.toInt + 60 → sY.toInt - 60 ≤ y_ → y_ ≤ sY.toInt + 60 → ((fun x_ y_ => decide (insd u3.toInt x_ y_)) x_ y_ = true ↔ 0 ≤ x_ ∧ x_ ≤ z1337.toInt ∧ z1309.toInt ≤ y_ ∧ y_ ≤ z1365.toInt) := fun x_ y_ a1_ a2_ a3_ a4_ => by
                show decide (insd u3.toInt x_ y_) = true ↔ _
                rw [decide_eq_true_iff]
                constructor
                · intro z_; omega
                · intro z_; omega
              have gs_ : GS G τ f1532 u0 rq mq vb vu (fun x_ y_ => decide (insd u3.toInt x_ y_)) u2.toInt 0 := ⟨nq, xq, sq, oq, R1534, rx1_f3, wo1_f1503, sh1_f1503, sX, sY, sX, sY, sX, sY, 0, z1309, z1337, z1365, us_f1503, bi_f1503, u2, ⟨hnx, ⟨hnq, hxq, hsq, hoq⟩, trq, tmq, hu0, ipu0_6f1503⟩, ⟨⟨k1541, k1542, k1540, k1539⟩, ⟨k1543, k1544, k1558, k1559⟩, k1547, k1548, k1549⟩, ⟨k1554, k1555, k1556, k1557⟩, ⟨k1550, k1551, k1552, k1553⟩, ⟨k1533, k1546, k1560, k1561⟩, GSv.init (r0 := rn1_f3) ⟨⟨hvb.2.1.1, hvb.2.1.2⟩, hvb.2.2, rfl, by omega, by omega⟩ ⟨hus_, hbi_⟩ hst_ hP_ ⟨⟨hsX, hsY, ⟨by decide, by decide⟩, (iv_w iz1309 (by decide)), (iv_w iz1337 (by decide)), (iv_w iz1365 (by decide))⟩, ⟨by omega, by omega, by omega, by omega⟩, by omega, by omega, by omega, by omega⟩ pRnqf3 pRxqf3 (fun k => by rw [erR1534, show r1529.toInt.toNat = 7564 by omega]; rfl)⟩
              exact u_vret C h hr hQ (⟨tf1532, of1532, gs_, (GS.gj gs_)⟩) (Nat.le_of_ble_eq_true rfl) (Nat.le_of_ble_eq_true rfl) dX2_open_198
            · exact absurd c1306 (by decide)
        · have c1275 : u3.toInt = 1 := congrArg Int32.toInt c1273
          exact (iv_cq_ c1275 i402 (iv_k (x := 1) (k := 1) rfl) (by decide)).elim
abbrev rm_s_X2_advance : Room := { frames := 3, cells := 0, slots := 0, locals := 65 }
set_option maxRecDepth 100000 in
set_option maxHeartbeats 4000000 in
theorem s_X2_advance (l : Launch) (D : va_G) (G : Nat → Nat) (b0 : Nat) (τ : Nat → Nat) (f : hM) (t : TI G 9 τ f) (u0 : Nat) (hu0 : τ u0 = 20) (u1 : Int32) (hu1 : iv u1 0 60) (rq mq : Nat) (vb : Nat → Int32) (vu : Int) (P : Int → Int → Bool) (md : Int) (n : Nat) (hGS : GS G τ f u0 rq mq vb vu P md n) (hn60 : (n : Int) + u1.toInt ≤ 60)  : mV l yX2_advance cX2_advance 4 rm_s_X2_advance D G b0 f [.ref u0, .int u1] (fun f1 => TI G 9 τ f1 ∧ Fr [20, 21, 23, 20001, 20002, 23001, 23002, 23003, 23004] τ f f1 ∧ (GS G τ f1 u0 rq mq vb vu P md (n + u1.toInt.toNat))) := by
  refine met2 (own := RX2) (by decide) rfl (Nat.le_of_ble_eq_true rfl) ?_
  intro p e s m args below meth c ls Q hQ C hr hini hl h
  have hl : lv_has ls 4 [(0, .ref u0), (1, .int u1)] := hl
  obtain ⟨hx, hb, hml, hown, hts, hE0, hlk⟩ := id C
  have o := Fr.rf [20, 21, 23, 20001, 20002, 23001, 23002, 23003, 23004] τ f
  have L2 : ∀ (n2 : Nat) (ls : Array Slot) (f_2 : hM) (H : Heap) (locs : List Loc) (v2_2 : Int32), 60 - v2_2.toInt < (n2 : Int) → lv_has ls 4 [(0, .ref u0), (1, .int u1), (2, .int v2_2)] → hw D b0 s.heap f_2 H locs → TI G 9 τ f_2 → Fr [20, 21, 23, 20001, 20002, 23001, 23002, 23003, 23004] τ f f_2 → iv v2_2 0 60 → (GS G τ f_2 u0 rq mq vb vu P md (n + Int.toNat v2_2.toInt)) → v2_2.toInt ≤ u1.toInt → W p l e rm_s_X2_advance s m args below meth c H locs 0 0 Q (F0 m 2 ls []) := by
    intro n2
    induction n2 with
    | zero => intro ls f_2 H locs v2_2 hm2 hl h t_2 o_2 iv2_2 hv2_0 hv2_1; exact absurd hm2 (by omega)
    | succ n2 ih2 =>
      intro ls f_2 H locs v2_2 hm2 hl h t_2 o_2 iv2_2 hv2_0 hv2_1
      refine lv_iload_n hx hb dX2_advance_2 rfl (lv_at hl 2 rfl) ?_
      refine lv_iload_n hx hb dX2_advance_3 rfl (lv_at hl 1 rfl) ?_
      refine lv_icmp_ge (tgt := 39) hx hb dX2_advance_4 (by decide) (fun c1 => ?_) (fun c1 => ?_)
      · have c2 : u1.toInt ≤ v2_2.toInt := Int32.le_iff_toInt_le.mp c1
        exact u_vret C h hr hQ (⟨t_2, o_2, (by rw [show n + u1.toInt.toNat = n + v2_2.toInt.toNat by omega]; exact hv2_0)⟩) (Nat.le_of_ble_eq_true rfl) (Nat.le_of_ble_eq_true rfl) dX2_advance_39
      · have c3 : v2_2.toInt < u1.toInt := Int32.lt_iff_toInt_lt.mp (iv_nle c1)
        have i4 : iv v2_2 0 59 := iv_Ll c3 iv2_2 hu1 (by decide)
        have i5 : iv u1 1 60 := iv_Lr c3 iv2_2 hu1 (by decide)
        refine lv_aload_n hx hb dX2_advance_7 rfl (lv_at hl 0 rfl) ?_
        obtain ⟨nq, xq, sq, oq, rn, rx, wo, sh, sx, sy, rl, rb, rr, rt, ml, mb, mr, mt, us, bi, mo, ⟨hnx, ⟨hnq, hxq, hsq, hoq⟩, trq, tmq, tg0_, ius⟩, ⟨⟨kg0, kg1, kg2, kg3⟩, ⟨kg4, kg5, kg6, kg7⟩, kg8, kg9, kg10⟩, ⟨krl, krb, krr, krt⟩, ⟨kml, kmb, kmr, kmt⟩, ⟨hRnq, hRxq, hRsq, hRoq⟩, hgv_⟩ := hv2_0
        obtain ⟨-, -, -, -, ⟨⟨isx, isy, irl, irb, irr, irt, iml, imb, imr, imt⟩, ⟨gr1, gr2, gr3, gr4⟩, ⟨gr5, gr6, gr7, gr8⟩⟩, ⟨gb1, gb2, gb3, gb4⟩, gn60, -⟩ := id hgv_
        have imo : iv mo 0 3 := by obtain ⟨⟨-, -, h1_, h2_, h3_⟩, -⟩ := id hgv_; omega
        have ibi := iv_any bi
        obtain ⟨_, r6⟩ := t_rec t_2 hu0 (by decide) wf_20
        refine k_v (r_V C h hl (As := []) (rest := []) (s_X2_widen l D G b0 τ f_2 t_2 u0 hu0 rq trq kg3 rl irl krl rb irb krb rr irr krr rt irt krt mq tmq kg2 ml iml kml mb imb kmb mr imr kmr mt imt kmt bi ibi kg7 (by omega) (by omega) (by omega) (by omega)) r6 (Cn := RX2) (T := TX2) (N := 11) rfl rfl mk_X2_widen w_691 w_693 w_14 w_694 ⟨Nat.le_of_ble_eq_true rfl, Nat.le_of_ble_eq_true rfl⟩ rfl (Nat.le_of_ble_eq_true rfl) ⟨Nat.le_of_ble_eq_true rfl, Nat.le_of_ble_eq_true rfl⟩ rfl dX2_advance_8) h (fun f8 H locs p9 h => ?_)
        obtain ⟨tf8, ogf8, ⟨rl1_f8, rb1_f8, rr1_f8, rt1_f8, ⟨kprq_0f8, iprq_0f8⟩, ⟨kprq_1f8, iprq_1f8⟩, ⟨kprq_2f8, iprq_2f8⟩, ⟨kprq_3f8, iprq_3f8⟩, jtf8⟩⟩ := p9
        have of8 : Fr [20, 21, 23, 20001, 20002, 23001, 23002, 23003, 23004] τ f f8 := Fr.tr o_2 ogf8 (by decide) (by decide)
        have k10 := atp.fr kg0 ogf8 hu0 (by decide)
        have k11 := atp.fr kg1 ogf8 hu0 (by decide)
        have k12 := atp.fr kg2 ogf8 hu0 (by decide)
        have k13 := atp.fr kg3 ogf8 hu0 (by decide)
        have k14 := atp.fr kg4 ogf8 hu0 (by decide)
        have k15 := atp.fr kg5 ogf8 hu0 (by decide)
        have k16 := atp.fr kg6 ogf8 hu0 (by decide)
        have k17 := atp.fr kg7 ogf8 hu0 (by decide)
        have k18 := atp.fr kg8 ogf8 hu0 (by decide)
        have k19 := atp.fr kg9 ogf8 hu0 (by decide)
        have k20 := atp.fr kg10 ogf8 hu0 (by decide)
        have k21 := atp.fr kml ogf8 tmq (by decide)
        have k22 := atp.fr kmb ogf8 tmq (by decide)
        have k23 := atp.fr kmr ogf8 tmq (by decide)
        have k24 := atp.fr kmt ogf8 tmq (by decide)
        have k25 := atp.fr hRnq ogf8 hnq (by decide)
        have k26 := atp.fr hRxq ogf8 hxq (by decide)
        have k27 := atp.fr hRsq ogf8 hsq (by decide)
        have k28 := atp.fr hRoq ogf8 hoq (by decide)
        obtain ⟨⟨wa_, wb_, -⟩, ⟨wc_, wd_, -⟩, ⟨we_, wf__, -⟩, wg_, wh_, -⟩ := id jtf8
        refine lv_aload_n hx hb dX2_advance_11 rfl (lv_at hl 0 rfl) ?_
        obtain ⟨_, r29⟩ := t_rec tf8 hu0 (by decide) wf_20
        refine k_v (r_V C h hl (As := []) (rest := []) (s_X2_gather l D G b0 τ f8 tf8 u0 hu0 nq hnq k10 xq hxq k11 rq trq k13 rl1_f8 iprq_0f8 kprq_0f8 rb1_f8 iprq_1f8 kprq_1f8 rr1_f8 iprq_2f8 kprq_2f8 rt1_f8 iprq_3f8 kprq_3f8 sx isx k19 sy isy k20 sq hsq k14 oq hoq k15 us ius k16 mo imo k18 rn k25 rx k26 sh k27 wo k28 hnx (by omega) (by omega) (by omega) (by omega)) r29 (Cn := RX2) (T := TX2) (N := 11) rfl rfl mk_X2_gather w_697 w_699 w_15 w_700 ⟨Nat.le_of_ble_eq_true rfl, Nat.le_of_ble_eq_true rfl⟩ rfl (Nat.le_of_ble_eq_true rfl) ⟨Nat.le_of_ble_eq_true rfl, Nat.le_of_ble_eq_true rfl⟩ rfl dX2_advance_12) h (fun f31 H locs p32 h => ?_)
        obtain ⟨tf31, ogf31, ⟨rn1_f31, kRnqf31, pRnqf31⟩, ⟨rx1_f31, kRxqf31, pRxqf31⟩⟩ := p32
        have of31 : Fr [20, 21, 23, 20001, 20002, 23001, 23002, 23003, 23004] τ f f31 := Fr.tr of8 ogf31 (by decide) (by decide)
        have k33 := atp.fr k10 ogf31 hu0 (by decide)
        have k34 := atp.fr k11 ogf31 hu0 (by decide)
        have k35 := atp.fr k12 ogf31 hu0 (by decide)
        have k36 := atp.fr k13 ogf31 hu0 (by decide)
        have k37 := atp.fr k14 ogf31 hu0 (by decide)
        have k38 := atp.fr k15 ogf31 hu0 (by decide)
        have k39 := atp.fr k16 ogf31 hu0 (by decide)
        have k40 := atp.fr k17 ogf31 hu0 (by decide)
        have k41 := atp.fr k18 ogf31 hu0 (by decide)
        have k42 := atp.fr k19 ogf31 hu0 (by decide)
        have k43 := atp.fr k20 ogf31 hu0 (by decide)
        have k44 := atp.fr k21 ogf31 tmq (by decide)
        have k45 := atp.fr k22 ogf31 tmq (by decide)
        have k46 := atp.fr k23 ogf31 tmq (by decide)
        have k47 := atp.fr k24 ogf31 tmq (by decide)
        have k48 := atp.fr k27 ogf31 hsq (by decide)
        have k49 := atp.fr k28 ogf31 hoq (by decide)
        have k50 := atp.fr kprq_0f8 ogf31 trq (by decide)
        have k51 := atp.fr kprq_1f8 ogf31 trq (by decide)
        have k52 := atp.fr kprq_2f8 ogf31 trq (by decide)
        have k53 := atp.fr kprq_3f8 ogf31 trq (by decide)
        refine lv_aload_n hx hb dX2_advance_15 rfl (lv_at hl 0 rfl) ?_
        refine t_getfd C h tf31 hu0 (by decide) wf_20 (v := .ref nq) k33 fl_X2_11 dX2_advance_16 ?_
        refine lv_astore_n (lv' := [(3, .ref nq), (0, .ref u0), (1, .int u1), (2, .int v2_2)]) hx hb dX2_advance_19 rfl hl (by decide) rfl (fun ls hl => ?_)
        refine lv_aload_n hx hb dX2_advance_20 rfl (lv_at hl 1 rfl) ?_
        refine lv_aload_n hx hb dX2_advance_21 rfl (lv_at hl 1 rfl) ?_
        refine t_getfd C h tf31 hu0 (by decide) wf_20 (v := .ref xq) k34 fl_X2_15 dX2_advance_22 ?_
        refine t_put C h tf31 of31 hu0 (by decide) (by decide) (by decide) wf_20 fw_20 (k := 0) rfl flw_X2_11 (Or.inr ⟨_, _, _, rfl, rfl⟩) (v := .ref xq) rfl rfl ⟨_, rfl, hxq⟩ dX2_advance_25 (fun f54 H locs h tf54 of54 hq ha_ hn_ hk_ => ?_)
        have k56 := hk_ 1 _ (by decide) k34
        have k57 := hk_ 2 _ (by decide) k35
        have k58 := hk_ 3 _ (by decide) k36
        have k59 := hk_ 4 _ (by decide) k37
        have k60 := hk_ 5 _ (by decide) k38
        have k61 := hk_ 6 _ (by decide) k39
        have k62 := hk_ 7 _ (by decide) k40
        have k63 := hk_ 8 _ (by decide) k41
        have k64 := hk_ 9 _ (by decide) k42
        have k65 := hk_ 10 _ (by decide) k43
        have k66 := atp.tg k44 hq tmq (by decide)
        have k67 := atp.tg k45 hq tmq (by decide)
        have k68 := atp.tg k46 hq tmq (by decide)
        have k69 := atp.tg k47 hq tmq (by decide)
        have k70 := atp.tg k48 hq hsq (by decide)
        have k71 := atp.tg k49 hq hoq (by decide)
        have k72 := atp.tg k50 hq trq (by decide)
        have k73 := atp.tg k51 hq trq (by decide)
        have k74 := atp.tg k52 hq trq (by decide)
        have k75 := atp.tg k53 hq trq (by decide)
        have k76 := atp.tg kRnqf31 hq hnq (by decide)
        have k77 := atp.tg kRxqf31 hq hxq (by decide)
        have k78 := ha_
        refine lv_aload_n hx hb dX2_advance_28 rfl (lv_at hl 1 rfl) ?_
        refine lv_aload_n hx hb dX2_advance_29 rfl (lv_at hl 0 rfl) ?_
        refine t_put C h tf54 of54 hu0 (by decide) (by decide) (by decide) wf_20 fw_20 (k := 1) rfl flw_X2_15 (Or.inr ⟨_, _, _, rfl, rfl⟩) (v := .ref nq) rfl rfl ⟨_, rfl, hnq⟩ dX2_advance_30 (fun f79 H locs h tf79 of79 hq ha_ hn_ hk_ => ?_)
        have k81 := hk_ 2 _ (by decide) k57
        have k82 := hk_ 3 _ (by decide) k58
        have k83 := hk_ 4 _ (by decide) k59
        have k84 := hk_ 5 _ (by decide) k60
        have k85 := hk_ 6 _ (by decide) k61
        have k86 := hk_ 7 _ (by decide) k62
        have k87 := hk_ 8 _ (by decide) k63
        have k88 := hk_ 9 _ (by decide) k64
        have k89 := hk_ 10 _ (by decide) k65
        have k90 := atp.tg k66 hq tmq (by decide)
        have k91 := atp.tg k67 hq tmq (by decide)
        have k92 := atp.tg k68 hq tmq (by decide)
        have k93 := atp.tg k69 hq tmq (by decide)
        have k94 := atp.tg k70 hq hsq (by decide)
        have k95 := atp.tg k71 hq hoq (by decide)
        have k96 := atp.tg k72 hq trq (by decide)
        have k97 := atp.tg k73 hq trq (by decide)
        have k98 := atp.tg k74 hq trq (by decide)
        have k99 := atp.tg k75 hq trq (by decide)
        have k100 := atp.tg k76 hq hnq (by decide)
        have k101 := atp.tg k77 hq hxq (by decide)
        have k102 := hk_ 0 _ (by decide) k78
        have k103 := ha_
        refine i_inc hx hb dX2_advance_33 hl (k := 3) rfl i4 rfl (lo := 1) (hi := 60) (by decide) (by decide) (lv' := fun v => [(2, .int v), (3, .ref nq), (0, .ref u0), (1, .int u1)]) (fun _ => rfl) (fun z104 ls ez104 mz104 iz104 hl => ?_)
        refine lv_goto (tgt := 2) hx hb dX2_advance_36 (by decide) ?_
        exact ih2 ls f79 H locs z104 (show 60 - z104.toInt < _ by omega) (lv_cons hl 2 rfl (lv_cons hl 3 rfl (lv_cons hl 0 rfl (lv_nil hl)))) h tf79 of79 (iv_w iz104 (by decide)) (show GS G τ f79 u0 rq mq vb vu P md (n + Int.toNat z104.toInt) from (by
            rw [show n + Int.toNat (z104.toInt) = n + v2_2.toInt.toNat + 1 by omega]
            exact ⟨xq, nq, sq, oq, rx1_f31, rn, wo, sh, sx, sy, rl1_f8, rb1_f8, rr1_f8, rt1_f8, ml, mb, mr, mt, us, bi, mo, ⟨hnx.symm, ⟨hxq, hnq, hsq, hoq⟩, trq, tmq, hu0, ius⟩, ⟨⟨k102, k103, k81, k82⟩, ⟨k83, k84, k85, k86⟩, k87, k88, k89⟩, ⟨k96, k97, k98, k99⟩, ⟨k90, k91, k92, k93⟩, ⟨k101, (by rw [← pRnqf31]; exact k100), k94, k95⟩, GSv.step hgv_ (by omega) jtf8 ⟨iprq_0f8, iprq_1f8, iprq_2f8, iprq_3f8⟩ pRxqf31⟩)) (show z104.toInt ≤ u1.toInt by omega)
  refine lv_iconst (v := 0) hx hb dX2_advance_0 (by decide) ?_
  refine lv_istore_n (lv' := [(2, .int 0), (0, .ref u0), (1, .int u1)]) hx hb dX2_advance_1 rfl hl (by decide) rfl (fun ls hl => ?_)
  exact L2 61 ls f s.heap [] 0 (by decide) (lv_cons hl 1 rfl (lv_cons hl 2 rfl (lv_cons hl 0 rfl (lv_nil hl)))) h t o ⟨by decide, by decide⟩ (show GS G τ f u0 rq mq vb vu P md (n + Int.toNat 0) from (by rw [show Int.toNat 0 = 0 from rfl, Nat.add_zero]; exact hGS)) (show 0 ≤ u1.toInt by omega)
abbrev rm_s_X2_go : Room := { frames := 4, cells := 0, slots := 0, locals := 88 }
set_option maxRecDepth 100000 in
set_option maxHeartbeats 4000000 in
theorem s_X2_go (l : Launch) (D : va_G) (G : Nat → Nat) (b0 : Nat) (τ : Nat → Nat) (f : hM) (t : TI G 9 τ f) (u0 : Nat) (hu0 : τ u0 = 20) (u1 : Nat) (hu1 : τ u1 = 1) (u2 : Int32) (hu2 : iv u2 0 3) (u3 : Int32) (hu3 : iv u3 (-2147483648) 2147483647) (u4 : Int32) (hu4 : iv u4 0 60) (wq : Nat) (hwq : τ wq = 2) (k_u1_0 : atp f u1 (fd 0 (.ref wq))) (sX : Int32) (hsX : iv sX 0 9) (k_u1_1 : atp f u1 (fd 1 (.int sX))) (sY : Int32) (hsY : iv sY 0 9) (k_u1_2 : atp f u1 (fd 2 (.int sY))) (rq mq : Nat) (hGJ : GJ τ f u0 rq mq) (ww : Nat → Int32) (hRwq : atp f wq (eqc (.inl (G 1, 8, .inl ww)))) (vb : Nat → Int32) (vu : Int) (hvb : inrow ww sX sY vb vu)  : mV l yX2_go cX2_go 5 rm_s_X2_go D G b0 f [.ref u0, .ref u1, .int u2, .int u3, .int u4] (fun f1 => TI G 9 τ f1 ∧ Fr [20, 21, 22, 23, 24, 25, 20001, 20002, 20007, 20008, 20009, 20010, 20011, 22001, 22002, 22003, 22004, 23001, 23002, 23003, 23004] τ f f1 ∧ (GS G τ f1 u0 rq mq vb vu (fun x_ y_ => decide (insd u3.toInt x_ y_)) u2.toInt u4.toInt.toNat) ∧ GJ τ f1 u0 rq mq) := by
  refine met2 (own := RX2) (by decide) rfl (Nat.le_of_ble_eq_true rfl) ?_
  intro p e s m args below meth c ls Q hQ C hr hini hl h
  have hl : lv_has ls 5 [(0, .ref u0), (1, .ref u1), (2, .int u2), (3, .int u3), (4, .int u4)] := hl
  obtain ⟨hx, hb, hml, hown, hts, hE0, hlk⟩ := id C
  have o := Fr.rf [20, 21, 22, 23, 24, 25, 20001, 20002, 20007, 20008, 20009, 20010, 20011, 22001, 22002, 22003, 22004, 23001, 23002, 23003, 23004] τ f
  obtain ⟨sx, sy, rl, rb, rr, rt, ml, mb, mr, mt, ⟨trq, tmq⟩, ⟨kg3, kg2, ksx, ksy⟩, ⟨krl, krb, krr, krt⟩, ⟨kml, kmb, kmr, kmt⟩, ⟨isx, isy, irl, irb, irr, irt, iml, imb, imr, imt⟩, ⟨gr1, gr2, gr3, gr4⟩, ⟨gr5, gr6, gr7, gr8⟩, hGZ⟩ := hGJ
  refine lv_aload_n hx hb dX2_go_0 rfl (lv_at hl 0 rfl) ?_
  refine lv_aload_n hx hb dX2_go_1 rfl (lv_at hl 1 rfl) ?_
  refine lv_iload_n hx hb dX2_go_2 rfl (lv_at hl 2 rfl) ?_
  refine lv_iload_n hx hb dX2_go_3 rfl (lv_at hl 3 rfl) ?_
  have gj1 : GJ τ f u0 rq mq := ⟨sx, sy, rl, rb, rr, rt, ml, mb, mr, mt, ⟨trq, tmq⟩, ⟨kg3, kg2, ksx, ksy⟩, ⟨krl, krb, krr, krt⟩, ⟨kml, kmb, kmr, kmt⟩, ⟨isx, isy, irl, irb, irr, irt, iml, imb, imr, imt⟩, ⟨by omega, by omega, by omega, by omega⟩, ⟨by omega, by omega, by omega, by omega⟩, hGZ⟩
  obtain ⟨_, r2⟩ := t_rec t hu0 (by decide) wf_20
  refine k_v (r_V C h hl (As := [.ref u1, .int u2, .int u3]) (rest := []) (s_X2_open l D G b0 τ f t u0 hu0 u1 hu1 u2 hu2 u3 hu3 wq hwq k_u1_0 sX hsX k_u1_1 sY hsY k_u1_2 rq mq gj1 ww hRwq vb vu hvb) r2 (Cn := RX2) (T := TX2) (N := 11) rfl rfl mk_X2_open w_663 w_664 w_665 w_666 ⟨Nat.le_of_ble_eq_true rfl, Nat.le_of_ble_eq_true rfl⟩ rfl (Nat.le_of_ble_eq_true rfl) ⟨Nat.le_of_ble_eq_true rfl, Nat.le_of_ble_eq_true rfl⟩ rfl dX2_go_4) h (fun f4 H locs p5 h => ?_)
  obtain ⟨tf4, ogf4, x0r3, gjf4⟩ := p5
  have of4 : Fr [20, 21, 22, 23, 24, 25, 20001, 20002, 20007, 20008, 20009, 20010, 20011, 22001, 22002, 22003, 22004, 23001, 23002, 23003, 23004] τ f f4 := Fr.tr o ogf4 (by decide) (by decide)
  have k6 := atp.fr k_u1_0 ogf4 hu1 (by decide)
  have k7 := atp.fr k_u1_1 ogf4 hu1 (by decide)
  have k8 := atp.fr k_u1_2 ogf4 hu1 (by decide)
  have k9 := atp.fr hRwq ogf4 hwq (by decide)
  have k10 := atp.fk kg3 ogf4 hu0 (by decide) (by decide)
  have k11 := atp.fk kg2 ogf4 hu0 (by decide) (by decide)
  obtain ⟨sxf4, syf4, rlf4, rbf4, rrf4, rtf4, mlf4, mbf4, mrf4, mtf4, -, ⟨kg3f4, kg2f4, ksxf4, ksyf4⟩, ⟨krlf4, krbf4, krrf4, krtf4⟩, ⟨kmlf4, kmbf4, kmrf4, kmtf4⟩, ⟨isxf4, isyf4, irlf4, irbf4, irrf4, irtf4, imlf4, imbf4, imrf4, imtf4⟩, ⟨gr1f4, gr2f4, gr3f4, gr4f4⟩, ⟨gr5f4, gr6f4, gr7f4, gr8f4⟩, hGZf4⟩ := gjf4
  refine lv_aload_n hx hb dX2_go_7 rfl (lv_at hl 0 rfl) ?_
  refine lv_iload hx hb dX2_go_8 (lv_at hl 4 rfl) ?_
  obtain ⟨_, r12⟩ := t_rec tf4 hu0 (by decide) wf_20
  refine k_v (r_V C h hl (As := [.int u4]) (rest := []) (s_X2_advance l D G b0 τ f4 tf4 u0 hu0 u4 hu4 rq mq vb vu (fun x_ y_ => decide (insd (u3 : Int32).toInt x_ y_)) (u2 : Int32).toInt 0 x0r3 (by omega)) r12 (Cn := RX2) (T := TX2) (N := 11) rfl rfl mk_X2_advance w_687 w_688 w_689 w_690 ⟨Nat.le_of_ble_eq_true rfl, Nat.le_of_ble_eq_true rfl⟩ rfl (Nat.le_of_ble_eq_true rfl) ⟨Nat.le_of_ble_eq_true rfl, Nat.le_of_ble_eq_true rfl⟩ rfl dX2_go_10) h (fun f14 H locs p15 h => ?_)
  obtain ⟨tf14, ogf14, x0r13⟩ := p15
  have of14 : Fr [20, 21, 22, 23, 24, 25, 20001, 20002, 20007, 20008, 20009, 20010, 20011, 22001, 22002, 22003, 22004, 23001, 23002, 23003, 23004] τ f f14 := Fr.tr of4 ogf14 (by decide) (by decide)
  have k16 := atp.fr k6 ogf14 hu1 (by decide)
  have k17 := atp.fr k7 ogf14 hu1 (by decide)
  have k18 := atp.fr k8 ogf14 hu1 (by decide)
  have k19 := atp.fr k9 ogf14 hwq (by decide)
  have k20 := atp.fk kg3f4 ogf14 hu0 (by decide) (by decide)
  have k21 := atp.fk kg2f4 ogf14 hu0 (by decide) (by decide)
  have k22 := atp.fk ksxf4 ogf14 hu0 (by decide) (by decide)
  have k23 := atp.fk ksyf4 ogf14 hu0 (by decide) (by decide)
  have k24 := atp.fr kmlf4 ogf14 tmq (by decide)
  have k25 := atp.fr kmbf4 ogf14 tmq (by decide)
  have k26 := atp.fr kmrf4 ogf14 tmq (by decide)
  have k27 := atp.fr kmtf4 ogf14 tmq (by decide)
  obtain ⟨sxf14, syf14, rlf14, rbf14, rrf14, rtf14, mlf14, mbf14, mrf14, mtf14, -, ⟨kg3f14, kg2f14, ksxf14, ksyf14⟩, ⟨krlf14, krbf14, krrf14, krtf14⟩, ⟨kmlf14, kmbf14, kmrf14, kmtf14⟩, ⟨isxf14, isyf14, irlf14, irbf14, irrf14, irtf14, imlf14, imbf14, imrf14, imtf14⟩, ⟨gr1f14, gr2f14, gr3f14, gr4f14⟩, ⟨gr5f14, gr6f14, gr7f14, gr8f14⟩, hGZf14⟩ := GS.gj x0r13
  have gs_ := x0r13
  rw [Nat.zero_add] at gs_
  exact u_vret C h hr hQ (⟨tf14, of14, gs_, (GS.gj gs_)⟩) (Nat.le_of_ble_eq_true rfl) (Nat.le_of_ble_eq_true rfl) dX2_go_13
abbrev rm_s_X2_close : Room := { frames := 1, cells := 0, slots := 0, locals := 18 }
set_option maxRecDepth 100000 in
set_option maxHeartbeats 4000000 in
theorem s_X2_close (l : Launch) (D : va_G) (G : Nat → Nat) (b0 : Nat) (τ : Nat → Nat) (f : hM) (t : TI G 9 τ f) (u0 : Nat) (hu0 : τ u0 = 20) (u1 : Int32) (hu1 : iv u1 0 70) (u2 : Int32) (hu2 : iv u2 0 70) (rq mq : Nat) (vb : Nat → Int32) (vu : Int) (P : Int → Int → Bool) (md : Int) (hGS : GS G τ f u0 rq mq vb vu P md 0) (hX_ : (vb (10 * vu + 8).toNat).toInt ≤ u1.toInt) (hY_ : (vb (10 * vu + 9).toNat).toInt ≤ u2.toInt)  : mV l yX2_close cX2_close 3 rm_s_X2_close D G b0 f [.ref u0, .int u1, .int u2] (fun f1 => TI G 9 τ f1 ∧ Fr [22, 22003, 22004] τ f f1 ∧ (GS G τ f1 u0 rq mq vb vu (fun x_ y_ => P x_ y_ && (decide (x_ ≤ u1.toInt) && decide (y_ ≤ u2.toInt))) md 0)) := by
  refine met2 (own := RX2) (by decide) rfl (Nat.le_of_ble_eq_true rfl) ?_
  intro p e s m args below meth c ls Q hQ C hr hini hl h
  have hl : lv_has ls 3 [(0, .ref u0), (1, .int u1), (2, .int u2)] := hl
  obtain ⟨hx, hb, hml, hown, hts, hE0, hlk⟩ := id C
  have o := Fr.rf [22, 22003, 22004] τ f
  obtain ⟨nq, xq, sq, oq, rn, rx, wo, sh, sx, sy, rl, rb, rr, rt, ml, mb, mr, mt, us, bi, mo, ⟨hnx, ⟨hnq, hxq, hsq, hoq⟩, trq, tmq, tg0_, ius⟩, ⟨⟨kg0, kg1, kg2, kg3⟩, ⟨kg4, kg5, kg6, kg7⟩, kg8, kg9, kg10⟩, ⟨krl, krb, krr, krt⟩, ⟨kml, kmb, kmr, kmt⟩, ⟨hRnq, hRxq, hRsq, hRoq⟩, hgv_⟩ := hGS
  obtain ⟨-, -, -, -, ⟨⟨isx, isy, irl, irb, irr, irt, iml, imb, imr, imt⟩, ⟨gr1, gr2, gr3, gr4⟩, ⟨gr5, gr6, gr7, gr8⟩⟩, ⟨gb1, gb2, gb3, gb4⟩, gn60, -⟩ := id hgv_
  have imo : iv mo 0 3 := by obtain ⟨⟨-, -, h1_, h2_, h3_⟩, -⟩ := id hgv_; omega
  have ibi := iv_any bi
  refine lv_aload_n hx hb dX2_close_0 rfl (lv_at hl 0 rfl) ?_
  refine t_getfd C h t hu0 (by decide) wf_20 (v := .ref mq) kg2 fl_X2_21 dX2_close_1 ?_
  refine lv_aload_n hx hb dX2_close_4 rfl (lv_at hl 0 rfl) ?_
  refine t_getfd C h t hu0 (by decide) wf_20 (v := .ref mq) kg2 fl_X2_21 dX2_close_5 ?_
  refine t_getfd C h t tmq (by decide) wf_22 (v := .int mr) kmr fl_X2_66 dX2_close_8 ?_
  refine lv_iload_n hx hb dX2_close_11 rfl (lv_at hl 1 rfl) ?_
  refine va_mmin hx hb (hml.trans hl.1.symm) hown (hts _ w_696) (hts _ w_548) (hts _ w_112) (hts _ w_549) (Nat.le_of_ble_eq_true rfl) (Nat.le_of_ble_eq_true rfl) (Nat.le_of_ble_eq_true rfl) (Nat.le_of_ble_eq_true rfl) dX2_close_12 (i_min imr hu1 (lo := (-60)) (hi := 69) (by decide) (fun z1 mz1 iz1 => ?_))
  refine t_put C h t o tmq (by decide) (by decide) (by decide) wf_22 fw_22 (k := 2) rfl flw_X2_66 (Or.inr ⟨_, _, _, rfl, rfl⟩) (v := .int z1) rfl rfl ⟨_, rfl, iz1⟩ dX2_close_15 (fun f2 H locs h tf2 of2 hq ha_ hn_ hk_ => ?_)
  have k3 := atp.tg kg0 hq hu0 (by decide)
  have k4 := atp.tg kg1 hq hu0 (by decide)
  have k5 := atp.tg kg2 hq hu0 (by decide)
  have k6 := atp.tg kg3 hq hu0 (by decide)
  have k7 := atp.tg kg4 hq hu0 (by decide)
  have k8 := atp.tg kg5 hq hu0 (by decide)
  have k9 := atp.tg kg6 hq hu0 (by decide)
  have k10 := atp.tg kg7 hq hu0 (by decide)
  have k11 := atp.tg kg8 hq hu0 (by decide)
  have k12 := atp.tg kg9 hq hu0 (by decide)
  have k13 := atp.tg kg10 hq hu0 (by decide)
  have k14 := atp.tg krl hq trq (by decide)
  have k15 := hk_ 0 _ (by decide) kml
  have k16 := atp.tg krb hq trq (by decide)
  have k17 := hk_ 1 _ (by decide) kmb
  have k18 := atp.tg krr hq trq (by decide)
  have k20 := atp.tg krt hq trq (by decide)
  have k21 := hk_ 3 _ (by decide) kmt
  have k22 := atp.tg hRnq hq hnq (by decide)
  have k23 := atp.tg hRxq hq hxq (by decide)
  have k24 := atp.tg hRsq hq hsq (by decide)
  have k25 := atp.tg hRoq hq hoq (by decide)
  have k26 := ha_
  refine lv_aload_n hx hb dX2_close_18 rfl (lv_at hl 0 rfl) ?_
  refine t_getfd C h tf2 hu0 (by decide) wf_20 (v := .ref mq) k5 fl_X2_21 dX2_close_19 ?_
  refine lv_aload_n hx hb dX2_close_22 rfl (lv_at hl 0 rfl) ?_
  refine t_getfd C h tf2 hu0 (by decide) wf_20 (v := .ref mq) k5 fl_X2_21 dX2_close_23 ?_
  refine t_getfd C h tf2 tmq (by decide) wf_22 (v := .int mt) k21 fl_X2_69 dX2_close_26 ?_
  refine lv_iload_n hx hb dX2_close_29 rfl (lv_at hl 2 rfl) ?_
  refine va_mmin hx hb (hml.trans hl.1.symm) hown (hts _ w_696) (hts _ w_548) (hts _ w_112) (hts _ w_549) (Nat.le_of_ble_eq_true rfl) (Nat.le_of_ble_eq_true rfl) (Nat.le_of_ble_eq_true rfl) (Nat.le_of_ble_eq_true rfl) dX2_close_30 (i_min imt hu2 (lo := (-60)) (hi := 69) (by decide) (fun z27 mz27 iz27 => ?_))
  refine t_put C h tf2 of2 tmq (by decide) (by decide) (by decide) wf_22 fw_22 (k := 3) rfl flw_X2_69 (Or.inr ⟨_, _, _, rfl, rfl⟩) (v := .int z27) rfl rfl ⟨_, rfl, iz27⟩ dX2_close_33 (fun f28 H locs h tf28 of28 hq ha_ hn_ hk_ => ?_)
  have k29 := atp.tg k3 hq hu0 (by decide)
  have k30 := atp.tg k4 hq hu0 (by decide)
  have k31 := atp.tg k5 hq hu0 (by decide)
  have k32 := atp.tg k6 hq hu0 (by decide)
  have k33 := atp.tg k7 hq hu0 (by decide)
  have k34 := atp.tg k8 hq hu0 (by decide)
  have k35 := atp.tg k9 hq hu0 (by decide)
  have k36 := atp.tg k10 hq hu0 (by decide)
  have k37 := atp.tg k11 hq hu0 (by decide)
  have k38 := atp.tg k12 hq hu0 (by decide)
  have k39 := atp.tg k13 hq hu0 (by decide)
  have k40 := atp.tg k14 hq trq (by decide)
  have k41 := hk_ 0 _ (by decide) k15
  have k42 := atp.tg k16 hq trq (by decide)
  have k43 := hk_ 1 _ (by decide) k17
  have k44 := atp.tg k18 hq trq (by decide)
  have k45 := atp.tg k20 hq trq (by decide)
  have k47 := atp.tg k22 hq hnq (by decide)
  have k48 := atp.tg k23 hq hxq (by decide)
  have k49 := atp.tg k24 hq hsq (by decide)
  have k50 := atp.tg k25 hq hoq (by decide)
  have k51 := hk_ 2 _ (by decide) k26
  have k52 := ha_
  exact u_vret C h hr hQ (⟨tf28, of28, ⟨nq, xq, sq, oq, rn, rx, wo, sh, sx, sy, rl, rb, rr, rt, ml, mb, z1, z27, us, bi, mo, ⟨hnx, ⟨hnq, hxq, hsq, hoq⟩, trq, tmq, hu0, ius⟩, ⟨⟨k29, k30, k31, k32⟩, ⟨k33, k34, k35, k36⟩, k37, k38, k39⟩, ⟨k40, k42, k44, k45⟩, ⟨k41, k43, k51, k52⟩, ⟨k47, k48, k49, k50⟩, GSv.close hgv_ (by omega) (by omega) hX_ hY_ ⟨iz1, iz27⟩⟩⟩) (Nat.le_of_ble_eq_true rfl) (Nat.le_of_ble_eq_true rfl) dX2_close_36
abbrev rm_s_X2_seenX : Room := { frames := 1, cells := 0, slots := 0, locals := 22 }
set_option maxRecDepth 100000 in
set_option maxHeartbeats 4000000 in
theorem s_X2_seenX (l : Launch) (D : va_G) (G : Nat → Nat) (b0 : Nat) (τ : Nat → Nat) (f : hM) (t : TI G 9 τ f) (u0 : Nat) (hu0 : τ u0 = 20) (u1 : Int32) (hu1 : iv u1 (-2147483648) 2147483647) (u2 : Int32) (hu2 : iv u2 (-2147483648) 2147483647) (rq mq : Nat) (vb : Nat → Int32) (vu : Int) (P : Int → Int → Bool) (md : Int) (n : Nat) (hGS : GS G τ f u0 rq mq vb vu P md n)  : mL l yX2_seen cX2_seen 3 rm_s_X2_seenX D G b0 f [.ref u0, .int u1, .int u2] (fun r f1 => TI G 9 τ f1 ∧ Fr [] τ f f1 ∧ (r = AgP vb vu P (md + 1) n u1.toInt u2.toInt)) := by
  refine met2 (own := RX2) (by decide) rfl (Nat.le_of_ble_eq_true rfl) ?_
  intro p e s m args below meth c ls Q hQ C hr hini hl h
  have hl : lv_has ls 3 [(0, .ref u0), (1, .int u1), (2, .int u2)] := hl
  obtain ⟨hx, hb, hml, hown, hts, hE0, hlk⟩ := id C
  have o := Fr.rf [] τ f
  obtain ⟨nq, xq, sq, oq, rn, rx, wo, sh, sx, sy, rl, rb, rr, rt, ml, mb, mr, mt, us, bi, mo, ⟨hnx, ⟨hnq, hxq, hsq, hoq⟩, trq, tmq, tg0_, ius⟩, ⟨⟨kg0, kg1, kg2, kg3⟩, ⟨kg4, kg5, kg6, kg7⟩, kg8, kg9, kg10⟩, ⟨krl, krb, krr, krt⟩, ⟨kml, kmb, kmr, kmt⟩, ⟨hRnq, hRxq, hRsq, hRoq⟩, hgv_⟩ := hGS
  obtain ⟨-, -, -, -, ⟨⟨isx, isy, irl, irb, irr, irt, iml, imb, imr, imt⟩, ⟨gr1, gr2, gr3, gr4⟩, ⟨gr5, gr6, gr7, gr8⟩⟩, ⟨gb1, gb2, gb3, gb4⟩, gn60, -⟩ := id hgv_
  have imo : iv mo 0 3 := by obtain ⟨⟨-, -, h1_, h2_, h3_⟩, -⟩ := id hgv_; omega
  have ibi := iv_any bi
  refine lv_aload_n hx hb dX2_seen_0 rfl (lv_at hl 0 rfl) ?_
  refine t_getfd C h t hu0 (by decide) wf_20 (v := .ref rq) kg3 fl_X2_25 dX2_seen_1 ?_
  refine lv_iload_n hx hb dX2_seen_4 rfl (lv_at hl 1 rfl) ?_
  refine lv_iload_n hx hb dX2_seen_5 rfl (lv_at hl 2 rfl) ?_
  obtain ⟨_, r1⟩ := t_rec t trq (by decide) wf_23
  refine k_i (r_V C h hl (As := [.int u1, .int u2]) (rest := []) (s_X1_holdsk l D G b0 τ f t rq trq u1 hu1 u2 hu2 rl irl krl rb irb krb rr irr krr rt irt krt) r1 (Cn := RX1) (T := TX1) (N := 4) rfl rfl mk_X1_holds w_713 w_714 w_715 w_716 ⟨Nat.le_of_ble_eq_true rfl, Nat.le_of_ble_eq_true rfl⟩ rfl (Nat.le_of_ble_eq_true rfl) ⟨Nat.le_of_ble_eq_true rfl, Nat.le_of_ble_eq_true rfl⟩ rfl dX2_seen_6) h (fun r2 f3 H locs p4 h => ?_)
  obtain ⟨ir2, tf3, ogf3, cnr2, czr2⟩ := p4
  have egf3 := Fr.nil2 ogf3
  subst egf3
  refine lv_if_eq (tgt := 26) hx hb dX2_seen_9 (by decide) (fun c5 => ?_) (fun c5 => ?_)
  · have c6 : r2.toInt = 0 := congrArg Int32.toInt c5
    have i7 : iv r2 0 0 := iv_Q c6 ir2 (iv_k (x := 0) (k := 0) rfl) (by decide)
    have i8 := czr2 c6
    refine lv_lconst (v := 0) hx hb dX2_seen_26 (by decide) ?_
    exact u_lret C h hr hQ (⟨t, o, ((GSv.see hgv_ u1.toInt u2.toInt).2 (by omega)).symm⟩) (Nat.le_of_ble_eq_true rfl) (Nat.le_of_ble_eq_true rfl) dX2_seen_27
  · have c9 : r2.toInt ≠ 0 := fun z_ => c5 (Int32.toInt_inj.mp z_)
    have i10 : iv r2 1 1 := iv_Nl c9 ir2 (by decide)
    obtain ⟨i11, i12, i13, i14⟩ := cnr2 c9
    have i15 : iv u1 (-60) 69 := ⟨by omega, by omega⟩
    have i16 : iv u2 (-60) 69 := ⟨by omega, by omega⟩
    refine lv_aload_n hx hb dX2_seen_12 rfl (lv_at hl 0 rfl) ?_
    refine t_getfd C h t hu0 (by decide) wf_20 (v := .ref nq) kg0 fl_X2_11 dX2_seen_13 ?_
    refine lv_aload_n hx hb dX2_seen_16 rfl (lv_at hl 0 rfl) ?_
    refine lv_iload_n hx hb dX2_seen_17 rfl (lv_at hl 1 rfl) ?_
    refine lv_iload_n hx hb dX2_seen_18 rfl (lv_at hl 2 rfl) ?_
    obtain ⟨_, r17⟩ := t_rec t hu0 (by decide) wf_20
    refine k_i (r_V C h hl (As := [.int u1, .int u2]) (rest := [.ref nq]) (s_X2_cell l D G b0 τ f t u0 hu0 u1 (iv_w i15 (by decide)) u2 (iv_w i16 (by decide)) sx isx kg9 sy isy kg10) r17 (Cn := RX2) (T := TX2) (N := 11) rfl rfl mk_X2_cell w_671 w_673 w_12 w_674 ⟨Nat.le_of_ble_eq_true rfl, Nat.le_of_ble_eq_true rfl⟩ rfl (Nat.le_of_ble_eq_true rfl) ⟨Nat.le_of_ble_eq_true rfl, Nat.le_of_ble_eq_true rfl⟩ rfl dX2_seen_19) h (fun r18 f19 H locs p20 h => ?_)
    obtain ⟨ir18, tf19, ogf19, x0r18⟩ := p20
    have egf19 := Fr.nil2 ogf19
    subst egf19
    refine e_lald C h t hnq (by decide) wf_21 hRnq (ix_o (by omega)) dX2_seen_22 (fun w21 ew21 => ?_)
    refine lv_goto (tgt := 27) hx hb dX2_seen_23 (by decide) ?_
    exact u_lret C h hr hQ (⟨t, o, (by rw [ew21]; have h_ := (GSv.see hgv_ u1.toInt u2.toInt).1 (by omega); rw [← h_]; exact congrArg rn (by omega))⟩) (Nat.le_of_ble_eq_true rfl) (Nat.le_of_ble_eq_true rfl) dX2_seen_27
abbrev rm_s_X2_seen : Room := { frames := 1, cells := 0, slots := 0, locals := 22 }
set_option maxRecDepth 100000 in
set_option maxHeartbeats 4000000 in
theorem s_X2_seen (l : Launch) (D : va_G) (G : Nat → Nat) (b0 : Nat) (τ : Nat → Nat) (f : hM) (t : TI G 9 τ f) (u0 : Nat) (hu0 : τ u0 = 20) (u1 : Int32) (hu1 : iv u1 (-2147483648) 2147483647) (u2 : Int32) (hu2 : iv u2 (-2147483648) 2147483647) (rq mq : Nat) (hGJ : GJ τ f u0 rq mq) : mL l yX2_seen cX2_seen 3 rm_s_X2_seen D G b0 f [.ref u0, .int u1, .int u2] (fun r f1 => TI G 9 τ f1 ∧ Fr [] τ f f1) := by
  refine met2 (own := RX2) (by decide) rfl (Nat.le_of_ble_eq_true rfl) ?_
  intro p e s m args below meth c ls Q hQ C hr hini hl h
  have hl : lv_has ls 3 [(0, .ref u0), (1, .int u1), (2, .int u2)] := hl
  obtain ⟨hx, hb, hml, hown, hts, hE0, hlk⟩ := id C
  have o := Fr.rf [] τ f
  obtain ⟨sx, sy, rl, rb, rr, rt, ml, mb, mr, mt, ⟨trq, tmq⟩, ⟨kg3, kg2, ksx, ksy⟩, ⟨krl, krb, krr, krt⟩, ⟨kml, kmb, kmr, kmt⟩, ⟨isx, isy, irl, irb, irr, irt, iml, imb, imr, imt⟩, ⟨gr1, gr2, gr3, gr4⟩, ⟨gr5, gr6, gr7, gr8⟩, hGZ⟩ := hGJ
  refine lv_aload_n hx hb dX2_seen_0 rfl (lv_at hl 0 rfl) ?_
  refine t_getfd C h t hu0 (by decide) wf_20 (v := .ref rq) kg3 fl_X2_25 dX2_seen_1 ?_
  refine lv_iload_n hx hb dX2_seen_4 rfl (lv_at hl 1 rfl) ?_
  refine lv_iload_n hx hb dX2_seen_5 rfl (lv_at hl 2 rfl) ?_
  obtain ⟨_, r1⟩ := t_rec t trq (by decide) wf_23
  refine k_i (r_V C h hl (As := [.int u1, .int u2]) (rest := []) (s_X1_holdsk l D G b0 τ f t rq trq u1 hu1 u2 hu2 rl irl krl rb irb krb rr irr krr rt irt krt) r1 (Cn := RX1) (T := TX1) (N := 4) rfl rfl mk_X1_holds w_713 w_714 w_715 w_716 ⟨Nat.le_of_ble_eq_true rfl, Nat.le_of_ble_eq_true rfl⟩ rfl (Nat.le_of_ble_eq_true rfl) ⟨Nat.le_of_ble_eq_true rfl, Nat.le_of_ble_eq_true rfl⟩ rfl dX2_seen_6) h (fun r2 f3 H locs p4 h => ?_)
  obtain ⟨ir2, tf3, ogf3, cnr2, czr2⟩ := p4
  have egf3 := Fr.nil2 ogf3
  subst egf3
  refine lv_if_eq (tgt := 26) hx hb dX2_seen_9 (by decide) (fun c5 => ?_) (fun c5 => ?_)
  · have c6 : r2.toInt = 0 := congrArg Int32.toInt c5
    have i7 : iv r2 0 0 := iv_Q c6 ir2 (iv_k (x := 0) (k := 0) rfl) (by decide)
    have i8 := czr2 c6
    refine lv_lconst (v := 0) hx hb dX2_seen_26 (by decide) ?_
    exact u_lret C h hr hQ (⟨t, o⟩) (Nat.le_of_ble_eq_true rfl) (Nat.le_of_ble_eq_true rfl) dX2_seen_27
  · have c9 : r2.toInt ≠ 0 := fun z_ => c5 (Int32.toInt_inj.mp z_)
    have i10 : iv r2 1 1 := iv_Nl c9 ir2 (by decide)
    obtain ⟨i11, i12, i13, i14⟩ := cnr2 c9
    have i15 : iv u1 (-60) 69 := ⟨by omega, by omega⟩
    have i16 : iv u2 (-60) 69 := ⟨by omega, by omega⟩
    refine lv_aload_n hx hb dX2_seen_12 rfl (lv_at hl 0 rfl) ?_
    refine t_getr (tq := 21) C h t hu0 (by decide) wf_20 rfl fl_X2_11 dX2_seen_13 (fun q17 tq17 => ?_)
    refine lv_aload_n hx hb dX2_seen_16 rfl (lv_at hl 0 rfl) ?_
    refine lv_iload_n hx hb dX2_seen_17 rfl (lv_at hl 1 rfl) ?_
    refine lv_iload_n hx hb dX2_seen_18 rfl (lv_at hl 2 rfl) ?_
    obtain ⟨_, r18⟩ := t_rec t hu0 (by decide) wf_20
    refine k_i (r_V C h hl (As := [.int u1, .int u2]) (rest := [.ref q17]) (s_X2_cell l D G b0 τ f t u0 hu0 u1 (iv_w i15 (by decide)) u2 (iv_w i16 (by decide)) sx isx ksx sy isy ksy) r18 (Cn := RX2) (T := TX2) (N := 11) rfl rfl mk_X2_cell w_671 w_673 w_12 w_674 ⟨Nat.le_of_ble_eq_true rfl, Nat.le_of_ble_eq_true rfl⟩ rfl (Nat.le_of_ble_eq_true rfl) ⟨Nat.le_of_ble_eq_true rfl, Nat.le_of_ble_eq_true rfl⟩ rfl dX2_seen_19) h (fun r19 f20 H locs p21 h => ?_)
    obtain ⟨ir19, tf20, ogf20, x0r19⟩ := p21
    have egf20 := Fr.nil2 ogf20
    subst egf20
    refine t_lald C h t tq17 (by decide) wf_21 (ix_o (by omega)) dX2_seen_22 (fun w22 => ?_)
    refine lv_goto (tgt := 27) hx hb dX2_seen_23 (by decide) ?_
    exact u_lret C h hr hQ (⟨t, o⟩) (Nat.le_of_ble_eq_true rfl) (Nat.le_of_ble_eq_true rfl) dX2_seen_27
abbrev rm_s_X2_total : Room := { frames := 1, cells := 0, slots := 0, locals := 23 }
set_option maxRecDepth 100000 in
set_option maxHeartbeats 4000000 in
theorem s_X2_total (l : Launch) (D : va_G) (G : Nat → Nat) (b0 : Nat) (τ : Nat → Nat) (f : hM) (t : TI G 9 τ f) (u0 : Nat) (hu0 : τ u0 = 20) (rq mq : Nat) (hGJ : GJ τ f u0 rq mq) : mI l yX2_total cX2_total 6 (.int) rm_s_X2_total D G b0 f [.ref u0] (fun r f1 => iv r (-2147483648) 2147483647 ∧ TI G 9 τ f1 ∧ Fr [] τ f f1) := by
  refine met2 (own := RX2) (by decide) rfl (Nat.le_of_ble_eq_true rfl) ?_
  intro p e s m args below meth c ls Q hQ C hr hini hl h
  have hl : lv_has ls 6 [(0, .ref u0)] := hl
  obtain ⟨hx, hb, hml, hown, hts, hE0, hlk⟩ := id C
  have o := Fr.rf [] τ f
  obtain ⟨sx, sy, rl, rb, rr, rt, ml, mb, mr, mt, ⟨trq, tmq⟩, ⟨kg3, kg2, ksx, ksy⟩, ⟨krl, krb, krr, krt⟩, ⟨kml, kmb, kmr, kmt⟩, ⟨isx, isy, irl, irb, irr, irt, iml, imb, imr, imt⟩, ⟨gr1, gr2, gr3, gr4⟩, ⟨gr5, gr6, gr7, gr8⟩, hGZ⟩ := hGJ
  have L10 : ∀ (n10 : Nat) (ls : Array Slot) (f_10 : hM) (H : Heap) (locs : List Loc) (v10_1 : Int64) (v10_3 : Int32), 70 - v10_3.toInt < (n10 : Int) → lv_has ls 6 [(0, .ref u0), (1, .long v10_1), (3, .int v10_3)] → hw D b0 s.heap f_10 H locs → TI G 9 τ f_10 → Fr [] τ f f_10 → iv v10_3 (-60) 70 → GZ τ f_10 u0 (inb sx sy rl rb rr rt) → atp f_10 u0 (fd 3 (.ref rq)) → atp f_10 u0 (fd 2 (.ref mq)) → atp f_10 u0 (fd 9 (.int sx)) → atp f_10 u0 (fd 10 (.int sy)) → atp f_10 rq (fd 0 (.int rl)) → atp f_10 rq (fd 1 (.int rb)) → atp f_10 rq (fd 2 (.int rr)) → atp f_10 rq (fd 3 (.int rt)) → atp f_10 mq (fd 0 (.int ml)) → atp f_10 mq (fd 1 (.int mb)) → atp f_10 mq (fd 2 (.int mr)) → atp f_10 mq (fd 3 (.int mt)) → rl.toInt ≤ v10_3.toInt → W p l e rm_s_X2_total s m args below meth c H locs 0 0 Q (F0 m 10 ls []) := by
    intro n10
    induction n10 with
    | zero => intro ls f_10 H locs v10_1 v10_3 hm10 hl h t_10 o_10 iv10_3 k10_u0_GZ k10_u0_3 k10_u0_2 k10_u0_9 k10_u0_10 k10_rq_0 k10_rq_1 k10_rq_2 k10_rq_3 k10_mq_0 k10_mq_1 k10_mq_2 k10_mq_3 hv10_0; exact absurd hm10 (by omega)
    | succ n10 ih10 =>
      intro ls f_10 H locs v10_1 v10_3 hm10 hl h t_10 o_10 iv10_3 k10_u0_GZ k10_u0_3 k10_u0_2 k10_u0_9 k10_u0_10 k10_rq_0 k10_rq_1 k10_rq_2 k10_rq_3 k10_mq_0 k10_mq_1 k10_mq_2 k10_mq_3 hv10_0
      have L49 : ∀ (n49 : Nat) (ls : Array Slot) (f_49 : hM) (H : Heap) (locs : List Loc) (v49_1 : Int64) (v49_4 : Int32) (v49_5 : Int32), 15020 - v49_5.toInt < (n49 : Int) → lv_has ls 6 [(0, .ref u0), (1, .long v49_1), (3, .int v10_3), (4, .int v49_4), (5, .int v49_5)] → hw D b0 s.heap f_49 H locs → TI G 9 τ f_49 → Fr [] τ f f_49 → iv v10_3 (-60) 69 → iv v49_4 (-20000) 15004 → iv v49_5 124 15020 → GZ τ f_49 u0 (inb sx sy rl rb rr rt) → atp f_49 u0 (fd 3 (.ref rq)) → atp f_49 u0 (fd 2 (.ref mq)) → atp f_49 u0 (fd 9 (.int sx)) → atp f_49 u0 (fd 10 (.int sy)) → atp f_49 rq (fd 0 (.int rl)) → atp f_49 rq (fd 1 (.int rb)) → atp f_49 rq (fd 2 (.int rr)) → atp f_49 rq (fd 3 (.int rt)) → atp f_49 mq (fd 0 (.int ml)) → atp f_49 mq (fd 1 (.int mb)) → atp f_49 mq (fd 2 (.int mr)) → atp f_49 mq (fd 3 (.int mt)) → W p l e rm_s_X2_total s m args below meth c H locs 0 0 Q (F0 m 49 ls []) := by
        intro n49
        induction n49 with
        | zero => intro ls f_49 H locs v49_1 v49_4 v49_5 hm49 hl h t_49 o_49 jv49_3 iv49_4 iv49_5 k49_u0_GZ k49_u0_3 k49_u0_2 k49_u0_9 k49_u0_10 k49_rq_0 k49_rq_1 k49_rq_2 k49_rq_3 k49_mq_0 k49_mq_1 k49_mq_2 k49_mq_3; exact absurd hm49 (by omega)
        | succ n49 ih49 =>
          intro ls f_49 H locs v49_1 v49_4 v49_5 hm49 hl h t_49 o_49 jv49_3 iv49_4 iv49_5 k49_u0_GZ k49_u0_3 k49_u0_2 k49_u0_9 k49_u0_10 k49_rq_0 k49_rq_1 k49_rq_2 k49_rq_3 k49_mq_0 k49_mq_1 k49_mq_2 k49_mq_3
          refine lv_iload hx hb dX2_total_49 (lv_at hl 4 rfl) ?_
          refine lv_iload hx hb dX2_total_51 (lv_at hl 3 rfl) ?_
          refine lv_icmp_gt (tgt := 72) hx hb dX2_total_53 (by decide) (fun c1 => ?_) (fun c1 => ?_)
          · have c2 : v49_4.toInt < v49_5.toInt := Int32.lt_iff_toInt_lt.mp c1
            refine i_inc hx hb dX2_total_72 hl (k := 2) rfl jv49_3 rfl (lo := (-59)) (hi := 70) (by decide) (by decide) (lv' := fun v => [(3, .int v), (0, .ref u0), (1, .long v49_1), (4, .int v49_4), (5, .int v49_5)]) (fun _ => rfl) (fun z6 ls ez6 mz6 iz6 hl => ?_)
            refine lv_goto (tgt := 10) hx hb dX2_total_75 (by decide) ?_
            exact ih10 ls f_49 H locs v49_1 z6 (show 70 - z6.toInt < _ by omega) (lv_cons hl 1 rfl (lv_cons hl 2 rfl (lv_cons hl 0 rfl (lv_nil hl)))) h t_49 o_49 (iv_w iz6 (by decide)) k49_u0_GZ k49_u0_3 k49_u0_2 k49_u0_9 k49_u0_10 k49_rq_0 k49_rq_1 k49_rq_2 k49_rq_3 k49_mq_0 k49_mq_1 k49_mq_2 k49_mq_3 (show rl.toInt ≤ z6.toInt by omega)
          · have c3 : v49_5.toInt ≤ v49_4.toInt := Int32.le_iff_toInt_le.mp (iv_nlt c1)
            have i4 : iv v49_5 124 15004 := iv_El c3 iv49_5 iv49_4 (by decide)
            have i5 : iv v49_4 124 15004 := iv_Er c3 iv49_5 iv49_4 (by decide)
            refine lv_lload_n hx hb dX2_total_56 rfl (lv_at hl 1 rfl) ?_
            refine lv_aload_n hx hb dX2_total_57 rfl (lv_at hl 0 rfl) ?_
            refine t_getr (tq := 21) C h t_49 hu0 (by decide) wf_20 rfl fl_X2_11 dX2_total_58 (fun q7 tq7 => ?_)
            refine lv_iload hx hb dX2_total_61 (lv_at hl 4 rfl) ?_
            refine t_lald C h t_49 tq7 (by decide) wf_21 (iv_in i4 (by decide)) dX2_total_63 (fun w8 => ?_)
            refine lv_ladd hx hb dX2_total_64 (lv_topl (fun w9 ew9 => ?_))
            refine lv_lstore_n (lv' := [(1, .long w9), (0, .ref u0), (3, .int v10_3), (4, .int v49_4), (5, .int v49_5)]) hx hb dX2_total_65 rfl hl (by decide) rfl (fun ls hl => ?_)
            refine i_inc hx hb dX2_total_66 hl (k := 4) rfl i4 rfl (lo := 125) (hi := 15005) (by decide) (by decide) (lv' := fun v => [(5, .int v), (1, .long w9), (0, .ref u0), (3, .int v10_3), (4, .int v49_4)]) (fun _ => rfl) (fun z10 ls ez10 mz10 iz10 hl => ?_)
            refine lv_goto (tgt := 49) hx hb dX2_total_69 (by decide) ?_
            exact ih49 ls f_49 H locs w9 v49_4 z10 (show 15020 - z10.toInt < _ by omega) (lv_cons hl 2 rfl (lv_cons hl 1 rfl (lv_cons hl 3 rfl (lv_cons hl 4 rfl (lv_cons hl 0 rfl (lv_nil hl)))))) h t_49 o_49 jv49_3 (iv_w i5 (by decide)) (iv_w iz10 (by decide)) k49_u0_GZ k49_u0_3 k49_u0_2 k49_u0_9 k49_u0_10 k49_rq_0 k49_rq_1 k49_rq_2 k49_rq_3 k49_mq_0 k49_mq_1 k49_mq_2 k49_mq_3
      refine lv_iload_n hx hb dX2_total_10 rfl (lv_at hl 2 rfl) ?_
      refine lv_aload_n hx hb dX2_total_11 rfl (lv_at hl 0 rfl) ?_
      refine t_getfd C h t_10 hu0 (by decide) wf_20 (v := .ref rq) k10_u0_3 fl_X2_25 dX2_total_12 ?_
      refine t_getfd C h t_10 trq (by decide) wf_23 (v := .int rr) k10_rq_2 fl_X2_66 dX2_total_15 ?_
      refine lv_icmp_gt (tgt := 78) hx hb dX2_total_18 (by decide) (fun c11 => ?_) (fun c11 => ?_)
      · have c12 : rr.toInt < v10_3.toInt := Int32.lt_iff_toInt_lt.mp c11
        have i13 : iv v10_3 (-59) 70 := iv_Lr c12 irr iv10_3 (by decide)
        refine lv_lload_n hx hb dX2_total_78 rfl (lv_at hl 1 rfl) ?_
        refine k_i (r_SN C h hl (host := "QuarterWalks") (As := [.long v10_1]) (rest := []) (s_X10_residue l D G b0 τ f_10 t_10 v10_1) mk_X10_residue (by decide) w_741 w_742 ⟨Nat.le_of_ble_eq_true rfl, Nat.le_of_ble_eq_true rfl⟩ rfl (Nat.le_of_ble_eq_true rfl) ⟨Nat.le_of_ble_eq_true rfl, Nat.le_of_ble_eq_true rfl⟩ rfl dX2_total_79) h (fun r16 f17 H locs p18 h => ?_)
        obtain ⟨ir16, tf17, ogf17⟩ := p18
        have egf17 := Fr.nil2 ogf17
        subst egf17
        exact u_iret C h hr hQ (⟨ir16, t_10, o_10⟩) (Nat.le_of_ble_eq_true rfl) (Nat.le_of_ble_eq_true rfl) dX2_total_82
      · have c14 : v10_3.toInt ≤ rr.toInt := Int32.le_iff_toInt_le.mp (iv_nlt c11)
        have i15 : iv v10_3 (-60) 69 := iv_El c14 iv10_3 irr (by decide)
        refine lv_aload_n hx hb dX2_total_21 rfl (lv_at hl 0 rfl) ?_
        refine lv_iload_n hx hb dX2_total_22 rfl (lv_at hl 2 rfl) ?_
        refine lv_aload_n hx hb dX2_total_23 rfl (lv_at hl 0 rfl) ?_
        refine t_getfd C h t_10 hu0 (by decide) wf_20 (v := .ref rq) k10_u0_3 fl_X2_25 dX2_total_24 ?_
        refine t_getfd C h t_10 trq (by decide) wf_23 (v := .int rt) k10_rq_3 fl_X2_69 dX2_total_27 ?_
        obtain ⟨_, r19⟩ := t_rec t_10 hu0 (by decide) wf_20
        refine k_i (r_V C h hl (As := [.int v10_3, .int rt]) (rest := []) (s_X2_cell l D G b0 τ f_10 t_10 u0 hu0 v10_3 (iv_w i15 (by decide)) rt (iv_w irt (by decide)) sx isx k10_u0_9 sy isy k10_u0_10) r19 (Cn := RX2) (T := TX2) (N := 11) rfl rfl mk_X2_cell w_671 w_673 w_12 w_674 ⟨Nat.le_of_ble_eq_true rfl, Nat.le_of_ble_eq_true rfl⟩ rfl (Nat.le_of_ble_eq_true rfl) ⟨Nat.le_of_ble_eq_true rfl, Nat.le_of_ble_eq_true rfl⟩ rfl dX2_total_30) h (fun r20 f21 H locs p22 h => ?_)
        obtain ⟨ir20, tf21, ogf21, x0r20⟩ := p22
        have egf21 := Fr.nil2 ogf21
        subst egf21
        refine lv_istore (lv' := [(4, .int r20), (0, .ref u0), (1, .long v10_1), (3, .int v10_3)]) hx hb dX2_total_33 hl (by decide) rfl (fun ls hl => ?_)
        refine lv_aload_n hx hb dX2_total_35 rfl (lv_at hl 1 rfl) ?_
        refine lv_iload_n hx hb dX2_total_36 rfl (lv_at hl 3 rfl) ?_
        refine lv_aload_n hx hb dX2_total_37 rfl (lv_at hl 1 rfl) ?_
        refine t_getfd C h t_10 hu0 (by decide) wf_20 (v := .ref rq) k10_u0_3 fl_X2_25 dX2_total_38 ?_
        refine t_getfd C h t_10 trq (by decide) wf_23 (v := .int rb) k10_rq_1 fl_X2_63 dX2_total_41 ?_
        obtain ⟨_, r23⟩ := t_rec t_10 hu0 (by decide) wf_20
        refine k_i (r_V C h hl (As := [.int v10_3, .int rb]) (rest := []) (s_X2_cell l D G b0 τ f_10 t_10 u0 hu0 v10_3 (iv_w i15 (by decide)) rb (iv_w irb (by decide)) sx isx k10_u0_9 sy isy k10_u0_10) r23 (Cn := RX2) (T := TX2) (N := 11) rfl rfl mk_X2_cell w_671 w_673 w_12 w_674 ⟨Nat.le_of_ble_eq_true rfl, Nat.le_of_ble_eq_true rfl⟩ rfl (Nat.le_of_ble_eq_true rfl) ⟨Nat.le_of_ble_eq_true rfl, Nat.le_of_ble_eq_true rfl⟩ rfl dX2_total_44) h (fun r24 f25 H locs p26 h => ?_)
        obtain ⟨ir24, tf25, ogf25, x0r24⟩ := p26
        have egf25 := Fr.nil2 ogf25
        subst egf25
        refine lv_istore (lv' := [(5, .int r24), (4, .int r20), (0, .ref u0), (1, .long v10_1), (3, .int v10_3)]) hx hb dX2_total_47 hl (by decide) rfl (fun ls hl => ?_)
        exact L49 15021 ls f_10 H locs v10_1 r20 r24 (show 15020 - r24.toInt < _ by omega) (lv_cons hl 2 rfl (lv_cons hl 3 rfl (lv_cons hl 4 rfl (lv_cons hl 1 rfl (lv_cons hl 0 rfl (lv_nil hl)))))) h t_10 o_10 i15 (show iv r20 (-20000) 15004 from by omega) (show iv r24 124 15020 from by omega) k10_u0_GZ k10_u0_3 k10_u0_2 k10_u0_9 k10_u0_10 k10_rq_0 k10_rq_1 k10_rq_2 k10_rq_3 k10_mq_0 k10_mq_1 k10_mq_2 k10_mq_3
  refine lv_lconst (v := 0) hx hb dX2_total_0 (by decide) ?_
  refine lv_lstore_n (lv' := [(1, .long 0), (0, .ref u0)]) hx hb dX2_total_1 rfl hl (by decide) rfl (fun ls hl => ?_)
  refine lv_aload_n hx hb dX2_total_2 rfl (lv_at hl 1 rfl) ?_
  refine t_getfd C h t hu0 (by decide) wf_20 (v := .ref rq) kg3 fl_X2_25 dX2_total_3 ?_
  refine t_getfd C h t trq (by decide) wf_23 (v := .int rl) krl fl_X2_60 dX2_total_6 ?_
  refine lv_istore_n (lv' := [(3, .int rl), (1, .long 0), (0, .ref u0)]) hx hb dX2_total_9 rfl hl (by decide) rfl (fun ls hl => ?_)
  exact L10 131 ls f s.heap [] 0 rl (show 70 - rl.toInt < _ by omega) (lv_cons hl 2 rfl (lv_cons hl 1 rfl (lv_cons hl 0 rfl (lv_nil hl)))) h t o (iv_w irl (by decide)) hGZ kg3 kg2 ksx ksy krl krb krr krt kml kmb kmr kmt (show rl.toInt ≤ rl.toInt by omega)
abbrev rm_s_X2_alongLine : Room := { frames := 2, cells := 0, slots := 0, locals := 44 }
set_option maxRecDepth 100000 in
set_option maxHeartbeats 4000000 in
theorem s_X2_alongLine (l : Launch) (D : va_G) (G : Nat → Nat) (b0 : Nat) (τ : Nat → Nat) (f : hM) (t : TI G 9 τ f) (u0 : Nat) (hu0 : τ u0 = 20) (u1 : Int32) (hu1 : iv u1 0 1) (u2 : Int32) (hu2 : iv u2 0 1) (rq mq : Nat) (hGJ : GJ τ f u0 rq mq) : mI l yX2_alongLine cX2_alongLine 6 (.int) rm_s_X2_alongLine D G b0 f [.ref u0, .int u1, .int u2] (fun r f1 => iv r (-2147483648) 2147483647 ∧ TI G 9 τ f1 ∧ Fr [] τ f f1) := by
  refine met2 (own := RX2) (by decide) rfl (Nat.le_of_ble_eq_true rfl) ?_
  intro p e s m args below meth c ls Q hQ C hr hini hl h
  have hl : lv_has ls 6 [(0, .ref u0), (1, .int u1), (2, .int u2)] := hl
  obtain ⟨hx, hb, hml, hown, hts, hE0, hlk⟩ := id C
  have o := Fr.rf [] τ f
  obtain ⟨sx, sy, rl, rb, rr, rt, ml, mb, mr, mt, ⟨trq, tmq⟩, ⟨kg3, kg2, ksx, ksy⟩, ⟨krl, krb, krr, krt⟩, ⟨kml, kmb, kmr, kmt⟩, ⟨isx, isy, irl, irb, irr, irt, iml, imb, imr, imt⟩, ⟨gr1, gr2, gr3, gr4⟩, ⟨gr5, gr6, gr7, gr8⟩, hGZ⟩ := hGJ
  have L5 : ∀ (n5 : Nat) (ls : Array Slot) (f_5 : hM) (H : Heap) (locs : List Loc) (v5_3 : Int64) (v5_5 : Int32), 70 - v5_5.toInt < (n5 : Int) → lv_has ls 6 [(0, .ref u0), (1, .int u1), (2, .int u2), (3, .long v5_3), (5, .int v5_5)] → hw D b0 s.heap f_5 H locs → TI G 9 τ f_5 → Fr [] τ f f_5 → iv v5_5 0 70 → GZ τ f_5 u0 (inb sx sy rl rb rr rt) → atp f_5 u0 (fd 3 (.ref rq)) → atp f_5 u0 (fd 2 (.ref mq)) → atp f_5 u0 (fd 9 (.int sx)) → atp f_5 u0 (fd 10 (.int sy)) → atp f_5 rq (fd 0 (.int rl)) → atp f_5 rq (fd 1 (.int rb)) → atp f_5 rq (fd 2 (.int rr)) → atp f_5 rq (fd 3 (.int rt)) → atp f_5 mq (fd 0 (.int ml)) → atp f_5 mq (fd 1 (.int mb)) → atp f_5 mq (fd 2 (.int mr)) → atp f_5 mq (fd 3 (.int mt)) → W p l e rm_s_X2_alongLine s m args below meth c H locs 0 0 Q (F0 m 5 ls []) := by
    intro n5
    induction n5 with
    | zero => intro ls f_5 H locs v5_3 v5_5 hm5 hl h t_5 o_5 iv5_5 k5_u0_GZ k5_u0_3 k5_u0_2 k5_u0_9 k5_u0_10 k5_rq_0 k5_rq_1 k5_rq_2 k5_rq_3 k5_mq_0 k5_mq_1 k5_mq_2 k5_mq_3; exact absurd hm5 (by omega)
    | succ n5 ih5 =>
      intro ls f_5 H locs v5_3 v5_5 hm5 hl h t_5 o_5 iv5_5 k5_u0_GZ k5_u0_3 k5_u0_2 k5_u0_9 k5_u0_10 k5_rq_0 k5_rq_1 k5_rq_2 k5_rq_3 k5_mq_0 k5_mq_1 k5_mq_2 k5_mq_3
      refine lv_iload hx hb dX2_alongLine_5 (lv_at hl 4 rfl) ?_
      refine lv_bipush (v := 70) hx hb dX2_alongLine_7 (by decide) ?_
      refine lv_icmp_ge (tgt := 33) hx hb dX2_alongLine_9 (by decide) (fun c1 => ?_) (fun c1 => ?_)
      · have c2 : 70 ≤ v5_5.toInt := Int32.le_iff_toInt_le.mp c1
        have i3 : iv v5_5 70 70 := iv_Er c2 (iv_k (x := 70) (k := 70) rfl) iv5_5 (by decide)
        refine lv_lload_n hx hb dX2_alongLine_33 rfl (lv_at hl 3 rfl) ?_
        refine k_i (r_SN C h hl (host := "QuarterWalks") (As := [.long v5_3]) (rest := []) (s_X10_residue l D G b0 τ f_5 t_5 v5_3) mk_X10_residue (by decide) w_741 w_742 ⟨Nat.le_of_ble_eq_true rfl, Nat.le_of_ble_eq_true rfl⟩ rfl (Nat.le_of_ble_eq_true rfl) ⟨Nat.le_of_ble_eq_true rfl, Nat.le_of_ble_eq_true rfl⟩ rfl dX2_alongLine_34) h (fun r6 f7 H locs p8 h => ?_)
        obtain ⟨ir6, tf7, ogf7⟩ := p8
        have egf7 := Fr.nil2 ogf7
        subst egf7
        exact u_iret C h hr hQ (⟨ir6, t_5, o_5⟩) (Nat.le_of_ble_eq_true rfl) (Nat.le_of_ble_eq_true rfl) dX2_alongLine_37
      · have c4 : v5_5.toInt < 70 := Int32.lt_iff_toInt_lt.mp (iv_nle c1)
        have i5 : iv v5_5 0 69 := iv_Ll c4 iv5_5 (iv_k (x := 70) (k := 70) rfl) (by decide)
        refine lv_lload_n hx hb dX2_alongLine_12 rfl (lv_at hl 3 rfl) ?_
        refine lv_aload_n hx hb dX2_alongLine_13 rfl (lv_at hl 0 rfl) ?_
        refine lv_iload hx hb dX2_alongLine_14 (lv_at hl 4 rfl) ?_
        refine lv_iload_n hx hb dX2_alongLine_16 rfl (lv_at hl 1 rfl) ?_
        refine i_mulp hx hb dX2_alongLine_17 i5 hu1 (lo := 0) (hi := 69) (by decide) (fun z9 ez9 iz9 => ?_)
        refine lv_iload hx hb dX2_alongLine_18 (lv_at hl 4 rfl) ?_
        refine lv_iload_n hx hb dX2_alongLine_20 rfl (lv_at hl 2 rfl) ?_
        refine i_mulp hx hb dX2_alongLine_21 i5 hu2 (lo := 0) (hi := 69) (by decide) (fun z10 ez10 iz10 => ?_)
        have gj11 : GJ τ f_5 u0 rq mq := ⟨sx, sy, rl, rb, rr, rt, ml, mb, mr, mt, ⟨trq, tmq⟩, ⟨k5_u0_3, k5_u0_2, k5_u0_9, k5_u0_10⟩, ⟨k5_rq_0, k5_rq_1, k5_rq_2, k5_rq_3⟩, ⟨k5_mq_0, k5_mq_1, k5_mq_2, k5_mq_3⟩, ⟨isx, isy, irl, irb, irr, irt, iml, imb, imr, imt⟩, ⟨by omega, by omega, by omega, by omega⟩, ⟨by omega, by omega, by omega, by omega⟩, k5_u0_GZ⟩
        obtain ⟨_, r12⟩ := t_rec t_5 hu0 (by decide) wf_20
        refine k_l (r_V C h hl (As := [.int z9, .int z10]) (rest := [.long v5_3]) (s_X2_seen l D G b0 τ f_5 t_5 u0 hu0 z9 (iv_w iz9 (by decide)) z10 (iv_w iz10 (by decide)) rq mq gj11) r12 (Cn := RX2) (T := TX2) (N := 11) rfl rfl mk_X2_seen w_744 w_710 w_711 w_712 ⟨Nat.le_of_ble_eq_true rfl, Nat.le_of_ble_eq_true rfl⟩ rfl (Nat.le_of_ble_eq_true rfl) ⟨Nat.le_of_ble_eq_true rfl, Nat.le_of_ble_eq_true rfl⟩ rfl dX2_alongLine_22) h (fun r13 f14 H locs p15 h => ?_)
        obtain ⟨tf14, ogf14⟩ := p15
        have egf14 := Fr.nil2 ogf14
        subst egf14
        refine lv_ladd hx hb dX2_alongLine_25 (lv_topl (fun w16 ew16 => ?_))
        refine lv_lstore_n (lv' := [(3, .long w16), (0, .ref u0), (1, .int u1), (2, .int u2), (5, .int v5_5)]) hx hb dX2_alongLine_26 rfl hl (by decide) rfl (fun ls hl => ?_)
        refine i_inc hx hb dX2_alongLine_27 hl (k := 4) rfl i5 rfl (lo := 1) (hi := 70) (by decide) (by decide) (lv' := fun v => [(5, .int v), (3, .long w16), (0, .ref u0), (1, .int u1), (2, .int u2)]) (fun _ => rfl) (fun z17 ls ez17 mz17 iz17 hl => ?_)
        refine lv_goto (tgt := 5) hx hb dX2_alongLine_30 (by decide) ?_
        exact ih5 ls f_5 H locs w16 z17 (show 70 - z17.toInt < _ by omega) (lv_cons hl 2 rfl (lv_cons hl 3 rfl (lv_cons hl 4 rfl (lv_cons hl 1 rfl (lv_cons hl 0 rfl (lv_nil hl)))))) h t_5 o_5 (iv_w iz17 (by decide)) k5_u0_GZ k5_u0_3 k5_u0_2 k5_u0_9 k5_u0_10 k5_rq_0 k5_rq_1 k5_rq_2 k5_rq_3 k5_mq_0 k5_mq_1 k5_mq_2 k5_mq_3
  refine lv_lconst (v := 0) hx hb dX2_alongLine_0 (by decide) ?_
  refine lv_lstore_n (lv' := [(3, .long 0), (0, .ref u0), (1, .int u1), (2, .int u2)]) hx hb dX2_alongLine_1 rfl hl (by decide) rfl (fun ls hl => ?_)
  refine lv_iconst (v := 0) hx hb dX2_alongLine_2 (by decide) ?_
  refine lv_istore (lv' := [(5, .int 0), (3, .long 0), (0, .ref u0), (1, .int u1), (2, .int u2)]) hx hb dX2_alongLine_3 hl (by decide) rfl (fun ls hl => ?_)
  exact L5 71 ls f s.heap [] 0 0 (by decide) (lv_cons hl 2 rfl (lv_cons hl 3 rfl (lv_cons hl 4 rfl (lv_cons hl 1 rfl (lv_cons hl 0 rfl (lv_nil hl)))))) h t o ⟨by decide, by decide⟩ hGZ kg3 kg2 ksx ksy krl krb krr krt kml kmb kmr kmt
abbrev rm_s_X2_weightOut : Room := { frames := 0, cells := 0, slots := 0, locals := 0 }
set_option maxRecDepth 100000 in
set_option maxHeartbeats 4000000 in
theorem s_X2_weightOut (l : Launch) (D : va_G) (G : Nat → Nat) (b0 : Nat) (τ : Nat → Nat) (f : hM) (t : TI G 9 τ f) (u0 : Nat) (hu0 : τ u0 = 20) (u1 : Nat) (hu1 : τ u1 = 1) (u2 : Int32) (hu2 : iv u2 (-2147483648) 2147483647) (u3 : Int32) (hu3 : iv u3 (-2147483648) 2147483647) : mI l yX2_weightOut cX2_weightOut 6 (.int) rm_s_X2_weightOut D G b0 f [.ref u0, .ref u1, .int u2, .int u3] (fun r f1 => iv r (-2147483648) 2147483647 ∧ TI G 9 τ f1 ∧ Fr [] τ f f1) := by
  refine met2 (own := RX2) (by decide) rfl (Nat.le_of_ble_eq_true rfl) ?_
  intro p e s m args below meth c ls Q hQ C hr hini hl h
  have hl : lv_has ls 6 [(0, .ref u0), (1, .ref u1), (2, .int u2), (3, .int u3)] := hl
  obtain ⟨hx, hb, hml, hown, hts, hE0, hlk⟩ := id C
  have o := Fr.rf [] τ f
  have L6 : ∀ (n6 : Nat) (ls : Array Slot) (f_6 : hM) (H : Heap) (locs : List Loc) (v6_4 : Int32) (v6_5 : Int32), 8 - v6_5.toInt < (n6 : Int) → lv_has ls 6 [(1, .ref u1), (2, .int u2), (3, .int u3), (4, .int v6_4), (5, .int v6_5)] → hw D b0 s.heap f_6 H locs → TI G 9 τ f_6 → Fr [] τ f f_6 → iv v6_4 (-2147483648) 2147483647 → iv v6_5 0 8 → W p l e rm_s_X2_weightOut s m args below meth c H locs 0 0 Q (F0 m 6 ls []) := by
    intro n6
    induction n6 with
    | zero => intro ls f_6 H locs v6_4 v6_5 hm6 hl h t_6 o_6 iv6_4 iv6_5; exact absurd hm6 (by omega)
    | succ n6 ih6 =>
      intro ls f_6 H locs v6_4 v6_5 hm6 hl h t_6 o_6 iv6_4 iv6_5
      refine lv_iload hx hb dX2_weightOut_6 (lv_at hl 4 rfl) ?_
      refine lv_bipush (v := 8) hx hb dX2_weightOut_8 (by decide) ?_
      refine lv_icmp_ge (tgt := 53) hx hb dX2_weightOut_10 (by decide) (fun c1 => ?_) (fun c1 => ?_)
      · have c2 : 8 ≤ v6_5.toInt := Int32.le_iff_toInt_le.mp c1
        have i3 : iv v6_5 8 8 := iv_Er c2 (iv_k (x := 8) (k := 8) rfl) iv6_5 (by decide)
        refine lv_iload hx hb dX2_weightOut_53 (lv_at hl 3 rfl) ?_
        exact u_iret C h hr hQ (⟨iv6_4, t_6, o_6⟩) (Nat.le_of_ble_eq_true rfl) (Nat.le_of_ble_eq_true rfl) dX2_weightOut_55
      · have c4 : v6_5.toInt < 8 := Int32.lt_iff_toInt_lt.mp (iv_nle c1)
        have i5 : iv v6_5 0 7 := iv_Ll c4 iv6_5 (iv_k (x := 8) (k := 8) rfl) (by decide)
        refine lv_iload_n hx hb dX2_weightOut_13 rfl (lv_at hl 1 rfl) ?_
        refine st_getN C h (i := 0) (by decide) (by decide) dX2_weightOut_14 ?_
        refine lv_iload hx hb dX2_weightOut_17 (lv_at hl 4 rfl) ?_
        refine st_ald C h (k := 0) (by decide) st_b0 (iv_in i5 (by decide)) dX2_weightOut_19 (fun z6 ez6 iz6 => ?_)
        refine lv_iadd hx hb dX2_weightOut_20 (i_top (iv_any _) (fun z7 ez7 iz7 => ?_))
        refine lv_if_lt (tgt := 35) hx hb dX2_weightOut_21 (by decide) (fun c8 => ?_) (fun c8 => ?_)
        · have c9 : z7.toInt < 0 := Int32.lt_iff_toInt_lt.mp c8
          have i10 : iv z7 (-2147483648) (-1) := iv_Ll c9 iz7 (iv_k (x := 0) (k := 0) rfl) (by decide)
          refine lv_iload hx hb dX2_weightOut_35 (lv_at hl 3 rfl) ?_
          refine lv_aload_n hx hb dX2_weightOut_37 rfl (lv_at hl 0 rfl) ?_
          refine t_getr (tq := 2) C h t_6 hu1 (by decide) wf_1 rfl fl_X2_94 dX2_weightOut_38 (fun q13 tq13 => ?_)
          refine lv_iload hx hb dX2_weightOut_41 (lv_at hl 4 rfl) ?_
          refine t_iald C h t_6 tq13 (by decide) wf_2 (iv_in i5 (by decide)) dX2_weightOut_43 (fun z14 iz14 => ?_)
          refine lv_iadd hx hb dX2_weightOut_44 (i_top (iv_any _) (fun z15 ez15 iz15 => ?_))
          refine lv_istore (lv' := [(4, .int z15), (1, .ref u1), (2, .int u2), (3, .int u3), (5, .int v6_5)]) hx hb dX2_weightOut_45 hl (by decide) rfl (fun ls hl => ?_)
          refine i_inc hx hb dX2_weightOut_47 hl (k := 4) rfl i5 rfl (lo := 1) (hi := 8) (by decide) (by decide) (lv' := fun v => [(5, .int v), (4, .int z15), (1, .ref u1), (2, .int u2), (3, .int u3)]) (fun _ => rfl) (fun z16 ls ez16 mz16 iz16 hl => ?_)
          refine lv_goto (tgt := 6) hx hb dX2_weightOut_50 (by decide) ?_
          exact ih6 ls f_6 H locs z15 z16 (show 8 - z16.toInt < _ by omega) (lv_cons hl 2 rfl (lv_cons hl 3 rfl (lv_cons hl 4 rfl (lv_cons hl 1 rfl (lv_cons hl 0 rfl (lv_nil hl)))))) h t_6 o_6 iz15 (iv_w iz16 (by decide))
        · have c11 : 0 ≤ z7.toInt := Int32.le_iff_toInt_le.mp (iv_nlt c8)
          have i12 : iv z7 0 2147483647 := iv_Er c11 (iv_k (x := 0) (k := 0) rfl) iz7 (by decide)
          refine lv_iload_n hx hb dX2_weightOut_24 rfl (lv_at hl 2 rfl) ?_
          refine st_getN C h (i := 1) (by decide) (by decide) dX2_weightOut_25 ?_
          refine lv_iload hx hb dX2_weightOut_28 (lv_at hl 4 rfl) ?_
          refine st_ald C h (k := 1) (by decide) st_b1 (iv_in i5 (by decide)) dX2_weightOut_30 (fun z17 ez17 iz17 => ?_)
          refine lv_iadd hx hb dX2_weightOut_31 (i_top (iv_any _) (fun z18 ez18 iz18 => ?_))
          refine lv_if_ge (tgt := 47) hx hb dX2_weightOut_32 (by decide) (fun c19 => ?_) (fun c19 => ?_)
          · have c20 : 0 ≤ z18.toInt := Int32.le_iff_toInt_le.mp c19
            have i21 : iv z18 0 2147483647 := iv_Er c20 (iv_k (x := 0) (k := 0) rfl) iz18 (by decide)
            refine i_inc hx hb dX2_weightOut_47 hl (k := 4) rfl i5 rfl (lo := 1) (hi := 8) (by decide) (by decide) (lv' := fun v => [(5, .int v), (1, .ref u1), (2, .int u2), (3, .int u3), (4, .int v6_4)]) (fun _ => rfl) (fun z24 ls ez24 mz24 iz24 hl => ?_)
            refine lv_goto (tgt := 6) hx hb dX2_weightOut_50 (by decide) ?_
            exact ih6 ls f_6 H locs v6_4 z24 (show 8 - z24.toInt < _ by omega) (lv_cons hl 1 rfl (lv_cons hl 2 rfl (lv_cons hl 3 rfl (lv_cons hl 4 rfl (lv_cons hl 0 rfl (lv_nil hl)))))) h t_6 o_6 iv6_4 (iv_w iz24 (by decide))
          · have c22 : z18.toInt < 0 := Int32.lt_iff_toInt_lt.mp (iv_nle c19)
            have i23 : iv z18 (-2147483648) (-1) := iv_Ll c22 iz18 (iv_k (x := 0) (k := 0) rfl) (by decide)
            refine lv_iload hx hb dX2_weightOut_35 (lv_at hl 3 rfl) ?_
            refine lv_aload_n hx hb dX2_weightOut_37 rfl (lv_at hl 0 rfl) ?_
            refine t_getr (tq := 2) C h t_6 hu1 (by decide) wf_1 rfl fl_X2_94 dX2_weightOut_38 (fun q25 tq25 => ?_)
            refine lv_iload hx hb dX2_weightOut_41 (lv_at hl 4 rfl) ?_
            refine t_iald C h t_6 tq25 (by decide) wf_2 (iv_in i5 (by decide)) dX2_weightOut_43 (fun z26 iz26 => ?_)
            refine lv_iadd hx hb dX2_weightOut_44 (i_top (iv_any _) (fun z27 ez27 iz27 => ?_))
            refine lv_istore (lv' := [(4, .int z27), (1, .ref u1), (2, .int u2), (3, .int u3), (5, .int v6_5)]) hx hb dX2_weightOut_45 hl (by decide) rfl (fun ls hl => ?_)
            refine i_inc hx hb dX2_weightOut_47 hl (k := 4) rfl i5 rfl (lo := 1) (hi := 8) (by decide) (by decide) (lv' := fun v => [(5, .int v), (4, .int z27), (1, .ref u1), (2, .int u2), (3, .int u3)]) (fun _ => rfl) (fun z28 ls ez28 mz28 iz28 hl => ?_)
            refine lv_goto (tgt := 6) hx hb dX2_weightOut_50 (by decide) ?_
            exact ih6 ls f_6 H locs z27 z28 (show 8 - z28.toInt < _ by omega) (lv_cons hl 2 rfl (lv_cons hl 3 rfl (lv_cons hl 4 rfl (lv_cons hl 1 rfl (lv_cons hl 0 rfl (lv_nil hl)))))) h t_6 o_6 iz27 (iv_w iz28 (by decide))
  refine lv_iconst (v := 0) hx hb dX2_weightOut_0 (by decide) ?_
  refine lv_istore (lv' := [(4, .int 0), (0, .ref u0), (1, .ref u1), (2, .int u2), (3, .int u3)]) hx hb dX2_weightOut_1 hl (by decide) rfl (fun ls hl => ?_)
  refine lv_iconst (v := 0) hx hb dX2_weightOut_3 (by decide) ?_
  refine lv_istore (lv' := [(5, .int 0), (4, .int 0), (0, .ref u0), (1, .ref u1), (2, .int u2), (3, .int u3)]) hx hb dX2_weightOut_4 hl (by decide) rfl (fun ls hl => ?_)
  exact L6 9 ls f s.heap [] 0 0 (by decide) (lv_cons hl 3 rfl (lv_cons hl 4 rfl (lv_cons hl 5 rfl (lv_cons hl 1 rfl (lv_cons hl 0 rfl (lv_nil hl)))))) h t o ⟨by decide, by decide⟩ ⟨by decide, by decide⟩
abbrev rm_s_X2_leaving : Room := { frames := 2, cells := 0, slots := 0, locals := 44 }
set_option maxRecDepth 100000 in
set_option maxHeartbeats 4000000 in
theorem s_X2_leaving (l : Launch) (D : va_G) (G : Nat → Nat) (b0 : Nat) (τ : Nat → Nat) (f : hM) (t : TI G 9 τ f) (u0 : Nat) (hu0 : τ u0 = 20) (u1 : Nat) (hu1 : τ u1 = 1) (rq mq : Nat) (hGJ : GJ τ f u0 rq mq) : mI l yX2_leaving cX2_leaving 6 (.int) rm_s_X2_leaving D G b0 f [.ref u0, .ref u1] (fun r f1 => iv r (-2147483648) 2147483647 ∧ TI G 9 τ f1 ∧ Fr [] τ f f1) := by
  refine met2 (own := RX2) (by decide) rfl (Nat.le_of_ble_eq_true rfl) ?_
  intro p e s m args below meth c ls Q hQ C hr hini hl h
  have hl : lv_has ls 6 [(0, .ref u0), (1, .ref u1)] := hl
  obtain ⟨hx, hb, hml, hown, hts, hE0, hlk⟩ := id C
  have o := Fr.rf [] τ f
  obtain ⟨sx, sy, rl, rb, rr, rt, ml, mb, mr, mt, ⟨trq, tmq⟩, ⟨kg3, kg2, ksx, ksy⟩, ⟨krl, krb, krr, krt⟩, ⟨kml, kmb, kmr, kmt⟩, ⟨isx, isy, irl, irb, irr, irt, iml, imb, imr, imt⟩, ⟨gr1, gr2, gr3, gr4⟩, ⟨gr5, gr6, gr7, gr8⟩, hGZ⟩ := hGJ
  have L11 : ∀ (n11 : Nat) (ls : Array Slot) (f_11 : hM) (H : Heap) (locs : List Loc) (v11_2 : Int64) (v11_4 : Int32), 70 - v11_4.toInt < (n11 : Int) → lv_has ls 6 [(0, .ref u0), (1, .ref u1), (2, .long v11_2), (4, .int v11_4)] → hw D b0 s.heap f_11 H locs → TI G 9 τ f_11 → Fr [] τ f f_11 → iv v11_4 (-60) 70 → GZ τ f_11 u0 (inb sx sy rl rb rr rt) → atp f_11 u0 (fd 3 (.ref rq)) → atp f_11 u0 (fd 2 (.ref mq)) → atp f_11 u0 (fd 9 (.int sx)) → atp f_11 u0 (fd 10 (.int sy)) → atp f_11 rq (fd 0 (.int rl)) → atp f_11 rq (fd 1 (.int rb)) → atp f_11 rq (fd 2 (.int rr)) → atp f_11 rq (fd 3 (.int rt)) → atp f_11 mq (fd 0 (.int ml)) → atp f_11 mq (fd 1 (.int mb)) → atp f_11 mq (fd 2 (.int mr)) → atp f_11 mq (fd 3 (.int mt)) → W p l e rm_s_X2_leaving s m args below meth c H locs 0 0 Q (F0 m 11 ls []) := by
    intro n11
    induction n11 with
    | zero => intro ls f_11 H locs v11_2 v11_4 hm11 hl h t_11 o_11 iv11_4 k11_u0_GZ k11_u0_3 k11_u0_2 k11_u0_9 k11_u0_10 k11_rq_0 k11_rq_1 k11_rq_2 k11_rq_3 k11_mq_0 k11_mq_1 k11_mq_2 k11_mq_3; exact absurd hm11 (by omega)
    | succ n11 ih11 =>
      intro ls f_11 H locs v11_2 v11_4 hm11 hl h t_11 o_11 iv11_4 k11_u0_GZ k11_u0_3 k11_u0_2 k11_u0_9 k11_u0_10 k11_rq_0 k11_rq_1 k11_rq_2 k11_rq_3 k11_mq_0 k11_mq_1 k11_mq_2 k11_mq_3
      have L32 : ∀ (n32 : Nat) (ls : Array Slot) (f_32 : hM) (H : Heap) (locs : List Loc) (v32_2 : Int64) (v32_5 : Int32), 70 - v32_5.toInt < (n32 : Int) → lv_has ls 6 [(0, .ref u0), (1, .ref u1), (2, .long v32_2), (4, .int v11_4), (5, .int v32_5)] → hw D b0 s.heap f_32 H locs → TI G 9 τ f_32 → Fr [] τ f f_32 → iv v11_4 (-60) 69 → iv v32_5 (-60) 70 → GZ τ f_32 u0 (inb sx sy rl rb rr rt) → atp f_32 u0 (fd 3 (.ref rq)) → atp f_32 u0 (fd 2 (.ref mq)) → atp f_32 u0 (fd 9 (.int sx)) → atp f_32 u0 (fd 10 (.int sy)) → atp f_32 rq (fd 0 (.int rl)) → atp f_32 rq (fd 1 (.int rb)) → atp f_32 rq (fd 2 (.int rr)) → atp f_32 rq (fd 3 (.int rt)) → atp f_32 mq (fd 0 (.int ml)) → atp f_32 mq (fd 1 (.int mb)) → atp f_32 mq (fd 2 (.int mr)) → atp f_32 mq (fd 3 (.int mt)) → W p l e rm_s_X2_leaving s m args below meth c H locs 0 0 Q (F0 m 32 ls []) := by
        intro n32
        induction n32 with
        | zero => intro ls f_32 H locs v32_2 v32_5 hm32 hl h t_32 o_32 jv32_4 iv32_5 k32_u0_GZ k32_u0_3 k32_u0_2 k32_u0_9 k32_u0_10 k32_rq_0 k32_rq_1 k32_rq_2 k32_rq_3 k32_mq_0 k32_mq_1 k32_mq_2 k32_mq_3; exact absurd hm32 (by omega)
        | succ n32 ih32 =>
          intro ls f_32 H locs v32_2 v32_5 hm32 hl h t_32 o_32 jv32_4 iv32_5 k32_u0_GZ k32_u0_3 k32_u0_2 k32_u0_9 k32_u0_10 k32_rq_0 k32_rq_1 k32_rq_2 k32_rq_3 k32_mq_0 k32_mq_1 k32_mq_2 k32_mq_3
          refine lv_iload hx hb dX2_leaving_32 (lv_at hl 4 rfl) ?_
          refine lv_aload_n hx hb dX2_leaving_34 rfl (lv_at hl 0 rfl) ?_
          refine t_getfd C h t_32 hu0 (by decide) wf_20 (v := .ref rq) k32_u0_3 fl_X2_25 dX2_leaving_35 ?_
          refine t_getfd C h t_32 trq (by decide) wf_23 (v := .int rt) k32_rq_3 fl_X2_69 dX2_leaving_38 ?_
          refine lv_icmp_gt (tgt := 82) hx hb dX2_leaving_41 (by decide) (fun c1 => ?_) (fun c1 => ?_)
          · have c2 : rt.toInt < v32_5.toInt := Int32.lt_iff_toInt_lt.mp c1
            have i3 : iv v32_5 (-59) 70 := iv_Lr c2 irt iv32_5 (by decide)
            refine i_inc hx hb dX2_leaving_82 hl (k := 3) rfl jv32_4 rfl (lo := (-59)) (hi := 70) (by decide) (by decide) (lv' := fun v => [(4, .int v), (0, .ref u0), (1, .ref u1), (2, .long v32_2), (5, .int v32_5)]) (fun _ => rfl) (fun z6 ls ez6 mz6 iz6 hl => ?_)
            refine lv_goto (tgt := 11) hx hb dX2_leaving_85 (by decide) ?_
            exact ih11 ls f_32 H locs v32_2 z6 (show 70 - z6.toInt < _ by omega) (lv_cons hl 1 rfl (lv_cons hl 2 rfl (lv_cons hl 3 rfl (lv_cons hl 0 rfl (lv_nil hl))))) h t_32 o_32 (iv_w iz6 (by decide)) k32_u0_GZ k32_u0_3 k32_u0_2 k32_u0_9 k32_u0_10 k32_rq_0 k32_rq_1 k32_rq_2 k32_rq_3 k32_mq_0 k32_mq_1 k32_mq_2 k32_mq_3
          · have c4 : v32_5.toInt ≤ rt.toInt := Int32.le_iff_toInt_le.mp (iv_nlt c1)
            have i5 : iv v32_5 (-60) 69 := iv_El c4 iv32_5 irt (by decide)
            refine lv_iload hx hb dX2_leaving_44 (lv_at hl 3 rfl) ?_
            refine lv_if_eq (tgt := 54) hx hb dX2_leaving_46 (by decide) (fun c7 => ?_) (fun c7 => ?_)
            · have c8 : v11_4.toInt = 0 := congrArg Int32.toInt c7
              have i9 : iv v11_4 0 0 := iv_Q c8 jv32_4 (iv_k (x := 0) (k := 0) rfl) (by decide)
              refine lv_lload_n hx hb dX2_leaving_54 rfl (lv_at hl 2 rfl) ?_
              refine lv_aload_n hx hb dX2_leaving_55 rfl (lv_at hl 0 rfl) ?_
              refine lv_iload hx hb dX2_leaving_56 (lv_at hl 3 rfl) ?_
              refine lv_iload hx hb dX2_leaving_58 (lv_at hl 4 rfl) ?_
              have gj11 : GJ τ f_32 u0 rq mq := ⟨sx, sy, rl, rb, rr, rt, ml, mb, mr, mt, ⟨trq, tmq⟩, ⟨k32_u0_3, k32_u0_2, k32_u0_9, k32_u0_10⟩, ⟨k32_rq_0, k32_rq_1, k32_rq_2, k32_rq_3⟩, ⟨k32_mq_0, k32_mq_1, k32_mq_2, k32_mq_3⟩, ⟨isx, isy, irl, irb, irr, irt, iml, imb, imr, imt⟩, ⟨by omega, by omega, by omega, by omega⟩, ⟨by omega, by omega, by omega, by omega⟩, k32_u0_GZ⟩
              obtain ⟨_, r12⟩ := t_rec t_32 hu0 (by decide) wf_20
              refine k_l (r_V C h hl (As := [.int v11_4, .int v32_5]) (rest := [.long v32_2]) (s_X2_seen l D G b0 τ f_32 t_32 u0 hu0 v11_4 (iv_w i9 (by decide)) v32_5 (iv_w i5 (by decide)) rq mq gj11) r12 (Cn := RX2) (T := TX2) (N := 11) rfl rfl mk_X2_seen w_744 w_710 w_711 w_712 ⟨Nat.le_of_ble_eq_true rfl, Nat.le_of_ble_eq_true rfl⟩ rfl (Nat.le_of_ble_eq_true rfl) ⟨Nat.le_of_ble_eq_true rfl, Nat.le_of_ble_eq_true rfl⟩ rfl dX2_leaving_60) h (fun r13 f14 H locs p15 h => ?_)
              obtain ⟨tf14, ogf14⟩ := p15
              have egf14 := Fr.nil2 ogf14
              subst egf14
              refine lv_aload_n hx hb dX2_leaving_63 rfl (lv_at hl 0 rfl) ?_
              refine lv_aload_n hx hb dX2_leaving_64 rfl (lv_at hl 1 rfl) ?_
              refine lv_iload hx hb dX2_leaving_65 (lv_at hl 3 rfl) ?_
              refine lv_iload hx hb dX2_leaving_67 (lv_at hl 4 rfl) ?_
              obtain ⟨_, r16⟩ := t_rec t_32 hu0 (by decide) wf_20
              refine k_i (r_V C h hl (As := [.ref u1, .int v11_4, .int v32_5]) (rest := [.long r13, .long v32_2]) (s_X2_weightOut l D G b0 τ f_32 t_32 u0 hu0 u1 hu1 v11_4 (iv_w i9 (by decide)) v32_5 (iv_w i5 (by decide))) r16 (Cn := RX2) (T := TX2) (N := 11) rfl rfl mk_X2_weightOut w_843 w_845 w_22 w_846 ⟨Nat.le_of_ble_eq_true rfl, Nat.le_of_ble_eq_true rfl⟩ rfl (Nat.le_of_ble_eq_true rfl) ⟨Nat.le_of_ble_eq_true rfl, Nat.le_of_ble_eq_true rfl⟩ rfl dX2_leaving_69) h (fun r17 f18 H locs p19 h => ?_)
              obtain ⟨ir17, tf18, ogf18⟩ := p19
              have egf18 := Fr.nil2 ogf18
              subst egf18
              refine lv_i2l hx hb dX2_leaving_72 rfl (i_topL ir17 (fun w20 ew20 mw20 iw20 => ?_))
              refine lv_lmul hx hb dX2_leaving_73 (lv_topl (fun w21 ew21 => ?_))
              refine lv_ladd hx hb dX2_leaving_74 (lv_topl (fun w22 ew22 => ?_))
              refine lv_lstore_n (lv' := [(2, .long w22), (0, .ref u0), (1, .ref u1), (4, .int v11_4), (5, .int v32_5)]) hx hb dX2_leaving_75 rfl hl (by decide) rfl (fun ls hl => ?_)
              refine i_inc hx hb dX2_leaving_76 hl (k := 4) rfl i5 rfl (lo := (-59)) (hi := 70) (by decide) (by decide) (lv' := fun v => [(5, .int v), (2, .long w22), (0, .ref u0), (1, .ref u1), (4, .int v11_4)]) (fun _ => rfl) (fun z23 ls ez23 mz23 iz23 hl => ?_)
              refine lv_goto (tgt := 32) hx hb dX2_leaving_79 (by decide) ?_
              exact ih32 ls f_32 H locs w22 z23 (show 70 - z23.toInt < _ by omega) (lv_cons hl 2 rfl (lv_cons hl 3 rfl (lv_cons hl 1 rfl (lv_cons hl 4 rfl (lv_cons hl 0 rfl (lv_nil hl)))))) h t_32 o_32 (iv_w i9 (by decide)) (iv_w iz23 (by decide)) k32_u0_GZ k32_u0_3 k32_u0_2 k32_u0_9 k32_u0_10 k32_rq_0 k32_rq_1 k32_rq_2 k32_rq_3 k32_mq_0 k32_mq_1 k32_mq_2 k32_mq_3
            · have c10 : v11_4.toInt ≠ 0 := fun z_ => c7 (Int32.toInt_inj.mp z_)
              refine lv_iload hx hb dX2_leaving_49 (lv_at hl 4 rfl) ?_
              refine lv_if_ne (tgt := 76) hx hb dX2_leaving_51 (by decide) (fun c24 => ?_) (fun c24 => ?_)
              · have c25 : v32_5.toInt ≠ 0 := fun z_ => c24 (Int32.toInt_inj.mp z_)
                refine i_inc hx hb dX2_leaving_76 hl (k := 4) rfl i5 rfl (lo := (-59)) (hi := 70) (by decide) (by decide) (lv' := fun v => [(5, .int v), (0, .ref u0), (1, .ref u1), (2, .long v32_2), (4, .int v11_4)]) (fun _ => rfl) (fun z28 ls ez28 mz28 iz28 hl => ?_)
                refine lv_goto (tgt := 32) hx hb dX2_leaving_79 (by decide) ?_
                exact ih32 ls f_32 H locs v32_2 z28 (show 70 - z28.toInt < _ by omega) (lv_cons hl 1 rfl (lv_cons hl 2 rfl (lv_cons hl 3 rfl (lv_cons hl 4 rfl (lv_cons hl 0 rfl (lv_nil hl)))))) h t_32 o_32 jv32_4 (iv_w iz28 (by decide)) k32_u0_GZ k32_u0_3 k32_u0_2 k32_u0_9 k32_u0_10 k32_rq_0 k32_rq_1 k32_rq_2 k32_rq_3 k32_mq_0 k32_mq_1 k32_mq_2 k32_mq_3
              · have c26 : v32_5.toInt = 0 := congrArg Int32.toInt c24
                have i27 : iv v32_5 0 0 := iv_Q c26 i5 (iv_k (x := 0) (k := 0) rfl) (by decide)
                refine lv_lload_n hx hb dX2_leaving_54 rfl (lv_at hl 2 rfl) ?_
                refine lv_aload_n hx hb dX2_leaving_55 rfl (lv_at hl 0 rfl) ?_
                refine lv_iload hx hb dX2_leaving_56 (lv_at hl 3 rfl) ?_
                refine lv_iload hx hb dX2_leaving_58 (lv_at hl 4 rfl) ?_
                have gj29 : GJ τ f_32 u0 rq mq := ⟨sx, sy, rl, rb, rr, rt, ml, mb, mr, mt, ⟨trq, tmq⟩, ⟨k32_u0_3, k32_u0_2, k32_u0_9, k32_u0_10⟩, ⟨k32_rq_0, k32_rq_1, k32_rq_2, k32_rq_3⟩, ⟨k32_mq_0, k32_mq_1, k32_mq_2, k32_mq_3⟩, ⟨isx, isy, irl, irb, irr, irt, iml, imb, imr, imt⟩, ⟨by omega, by omega, by omega, by omega⟩, ⟨by omega, by omega, by omega, by omega⟩, k32_u0_GZ⟩
                obtain ⟨_, r30⟩ := t_rec t_32 hu0 (by decide) wf_20
                refine k_l (r_V C h hl (As := [.int v11_4, .int v32_5]) (rest := [.long v32_2]) (s_X2_seen l D G b0 τ f_32 t_32 u0 hu0 v11_4 (iv_w jv32_4 (by decide)) v32_5 (iv_w i27 (by decide)) rq mq gj29) r30 (Cn := RX2) (T := TX2) (N := 11) rfl rfl mk_X2_seen w_744 w_710 w_711 w_712 ⟨Nat.le_of_ble_eq_true rfl, Nat.le_of_ble_eq_true rfl⟩ rfl (Nat.le_of_ble_eq_true rfl) ⟨Nat.le_of_ble_eq_true rfl, Nat.le_of_ble_eq_true rfl⟩ rfl dX2_leaving_60) h (fun r31 f32 H locs p33 h => ?_)
                obtain ⟨tf32, ogf32⟩ := p33
                have egf32 := Fr.nil2 ogf32
                subst egf32
                refine lv_aload_n hx hb dX2_leaving_63 rfl (lv_at hl 0 rfl) ?_
                refine lv_aload_n hx hb dX2_leaving_64 rfl (lv_at hl 1 rfl) ?_
                refine lv_iload hx hb dX2_leaving_65 (lv_at hl 3 rfl) ?_
                refine lv_iload hx hb dX2_leaving_67 (lv_at hl 4 rfl) ?_
                obtain ⟨_, r34⟩ := t_rec t_32 hu0 (by decide) wf_20
                refine k_i (r_V C h hl (As := [.ref u1, .int v11_4, .int v32_5]) (rest := [.long r31, .long v32_2]) (s_X2_weightOut l D G b0 τ f_32 t_32 u0 hu0 u1 hu1 v11_4 (iv_w jv32_4 (by decide)) v32_5 (iv_w i27 (by decide))) r34 (Cn := RX2) (T := TX2) (N := 11) rfl rfl mk_X2_weightOut w_843 w_845 w_22 w_846 ⟨Nat.le_of_ble_eq_true rfl, Nat.le_of_ble_eq_true rfl⟩ rfl (Nat.le_of_ble_eq_true rfl) ⟨Nat.le_of_ble_eq_true rfl, Nat.le_of_ble_eq_true rfl⟩ rfl dX2_leaving_69) h (fun r35 f36 H locs p37 h => ?_)
                obtain ⟨ir35, tf36, ogf36⟩ := p37
                have egf36 := Fr.nil2 ogf36
                subst egf36
                refine lv_i2l hx hb dX2_leaving_72 rfl (i_topL ir35 (fun w38 ew38 mw38 iw38 => ?_))
                refine lv_lmul hx hb dX2_leaving_73 (lv_topl (fun w39 ew39 => ?_))
                refine lv_ladd hx hb dX2_leaving_74 (lv_topl (fun w40 ew40 => ?_))
                refine lv_lstore_n (lv' := [(2, .long w40), (0, .ref u0), (1, .ref u1), (4, .int v11_4), (5, .int v32_5)]) hx hb dX2_leaving_75 rfl hl (by decide) rfl (fun ls hl => ?_)
                refine i_inc hx hb dX2_leaving_76 hl (k := 4) rfl i27 rfl (lo := 1) (hi := 1) (by decide) (by decide) (lv' := fun v => [(5, .int v), (2, .long w40), (0, .ref u0), (1, .ref u1), (4, .int v11_4)]) (fun _ => rfl) (fun z41 ls ez41 mz41 iz41 hl => ?_)
                refine lv_goto (tgt := 32) hx hb dX2_leaving_79 (by decide) ?_
                exact ih32 ls f_32 H locs w40 z41 (show 70 - z41.toInt < _ by omega) (lv_cons hl 2 rfl (lv_cons hl 3 rfl (lv_cons hl 1 rfl (lv_cons hl 4 rfl (lv_cons hl 0 rfl (lv_nil hl)))))) h t_32 o_32 jv32_4 (iv_w iz41 (by decide)) k32_u0_GZ k32_u0_3 k32_u0_2 k32_u0_9 k32_u0_10 k32_rq_0 k32_rq_1 k32_rq_2 k32_rq_3 k32_mq_0 k32_mq_1 k32_mq_2 k32_mq_3
      refine lv_iload hx hb dX2_leaving_11 (lv_at hl 3 rfl) ?_
      refine lv_aload_n hx hb dX2_leaving_13 rfl (lv_at hl 0 rfl) ?_
      refine t_getfd C h t_11 hu0 (by decide) wf_20 (v := .ref rq) k11_u0_3 fl_X2_25 dX2_leaving_14 ?_
      refine t_getfd C h t_11 trq (by decide) wf_23 (v := .int rr) k11_rq_2 fl_X2_66 dX2_leaving_17 ?_
      refine lv_icmp_gt (tgt := 88) hx hb dX2_leaving_20 (by decide) (fun c42 => ?_) (fun c42 => ?_)
      · have c43 : rr.toInt < v11_4.toInt := Int32.lt_iff_toInt_lt.mp c42
        have i44 : iv v11_4 (-59) 70 := iv_Lr c43 irr iv11_4 (by decide)
        refine lv_lload_n hx hb dX2_leaving_88 rfl (lv_at hl 2 rfl) ?_
        refine k_i (r_SN C h hl (host := "QuarterWalks") (As := [.long v11_2]) (rest := []) (s_X10_residue l D G b0 τ f_11 t_11 v11_2) mk_X10_residue (by decide) w_741 w_742 ⟨Nat.le_of_ble_eq_true rfl, Nat.le_of_ble_eq_true rfl⟩ rfl (Nat.le_of_ble_eq_true rfl) ⟨Nat.le_of_ble_eq_true rfl, Nat.le_of_ble_eq_true rfl⟩ rfl dX2_leaving_89) h (fun r47 f48 H locs p49 h => ?_)
        obtain ⟨ir47, tf48, ogf48⟩ := p49
        have egf48 := Fr.nil2 ogf48
        subst egf48
        exact u_iret C h hr hQ (⟨ir47, t_11, o_11⟩) (Nat.le_of_ble_eq_true rfl) (Nat.le_of_ble_eq_true rfl) dX2_leaving_92
      · have c45 : v11_4.toInt ≤ rr.toInt := Int32.le_iff_toInt_le.mp (iv_nlt c42)
        have i46 : iv v11_4 (-60) 69 := iv_El c45 iv11_4 irr (by decide)
        refine lv_aload_n hx hb dX2_leaving_23 rfl (lv_at hl 0 rfl) ?_
        refine t_getfd C h t_11 hu0 (by decide) wf_20 (v := .ref rq) k11_u0_3 fl_X2_25 dX2_leaving_24 ?_
        refine t_getfd C h t_11 trq (by decide) wf_23 (v := .int rb) k11_rq_1 fl_X2_63 dX2_leaving_27 ?_
        refine lv_istore (lv' := [(5, .int rb), (0, .ref u0), (1, .ref u1), (2, .long v11_2), (4, .int v11_4)]) hx hb dX2_leaving_30 hl (by decide) rfl (fun ls hl => ?_)
        exact L32 131 ls f_11 H locs v11_2 rb (show 70 - rb.toInt < _ by omega) (lv_cons hl 1 rfl (lv_cons hl 2 rfl (lv_cons hl 3 rfl (lv_cons hl 4 rfl (lv_cons hl 0 rfl (lv_nil hl)))))) h t_11 o_11 i46 (iv_w irb (by decide)) k11_u0_GZ k11_u0_3 k11_u0_2 k11_u0_9 k11_u0_10 k11_rq_0 k11_rq_1 k11_rq_2 k11_rq_3 k11_mq_0 k11_mq_1 k11_mq_2 k11_mq_3
  refine lv_lconst (v := 0) hx hb dX2_leaving_0 (by decide) ?_
  refine lv_lstore_n (lv' := [(2, .long 0), (0, .ref u0), (1, .ref u1)]) hx hb dX2_leaving_1 rfl hl (by decide) rfl (fun ls hl => ?_)
  refine lv_aload_n hx hb dX2_leaving_2 rfl (lv_at hl 1 rfl) ?_
  refine t_getfd C h t hu0 (by decide) wf_20 (v := .ref rq) kg3 fl_X2_25 dX2_leaving_3 ?_
  refine t_getfd C h t trq (by decide) wf_23 (v := .int rl) krl fl_X2_60 dX2_leaving_6 ?_
  refine lv_istore (lv' := [(4, .int rl), (2, .long 0), (0, .ref u0), (1, .ref u1)]) hx hb dX2_leaving_9 hl (by decide) rfl (fun ls hl => ?_)
  exact L11 131 ls f s.heap [] 0 rl (show 70 - rl.toInt < _ by omega) (lv_cons hl 2 rfl (lv_cons hl 3 rfl (lv_cons hl 1 rfl (lv_cons hl 0 rfl (lv_nil hl))))) h t o (iv_w irl (by decide)) hGZ kg3 kg2 ksx ksy krl krb krr krt kml kmb kmr kmt
abbrev rm_s_X2_valueAt : Room := { frames := 2, cells := 0, slots := 0, locals := 44 }
set_option maxRecDepth 100000 in
set_option maxHeartbeats 4000000 in
theorem s_X2_valueAt (l : Launch) (D : va_G) (G : Nat → Nat) (b0 : Nat) (τ : Nat → Nat) (f : hM) (t : TI G 9 τ f) (u0 : Nat) (hu0 : τ u0 = 20) (u1 : Int32) (hu1 : iv u1 (-2147483648) 2147483647) (u2 : Int32) (hu2 : iv u2 (-2147483648) 2147483647) (rq mq : Nat) (hGJ : GJ τ f u0 rq mq) : mI l yX2_valueAt cX2_valueAt 7 (.int) rm_s_X2_valueAt D G b0 f [.ref u0, .int u1, .int u2] (fun r f1 => iv r (-2147483648) 2147483647 ∧ TI G 9 τ f1 ∧ Fr [] τ f f1) := by
  refine met2 (own := RX2) (by decide) rfl (Nat.le_of_ble_eq_true rfl) ?_
  intro p e s m args below meth c ls Q hQ C hr hini hl h
  have hl : lv_has ls 7 [(0, .ref u0), (1, .int u1), (2, .int u2)] := hl
  obtain ⟨hx, hb, hml, hown, hts, hE0, hlk⟩ := id C
  have o := Fr.rf [] τ f
  obtain ⟨sx, sy, rl, rb, rr, rt, ml, mb, mr, mt, ⟨trq, tmq⟩, ⟨kg3, kg2, ksx, ksy⟩, ⟨krl, krb, krr, krt⟩, ⟨kml, kmb, kmr, kmt⟩, ⟨isx, isy, irl, irb, irr, irt, iml, imb, imr, imt⟩, ⟨gr1, gr2, gr3, gr4⟩, ⟨gr5, gr6, gr7, gr8⟩, hGZ⟩ := hGJ
  have L11 : ∀ (n11 : Nat) (ls : Array Slot) (f_11 : hM) (H : Heap) (locs : List Loc) (v11_3 : Int32) (v11_4 : Int32), v11_4.toInt - (-60) < (n11 : Int) → lv_has ls 7 [(0, .ref u0), (1, .int u1), (2, .int u2), (3, .int v11_3), (4, .int v11_4)] → hw D b0 s.heap f_11 H locs → TI G 9 τ f_11 → Fr [] τ f f_11 → iv v11_3 (-2147483648) 2147483647 → iv v11_4 (-60) 69 → GZ τ f_11 u0 (inb sx sy rl rb rr rt) → atp f_11 u0 (fd 3 (.ref rq)) → atp f_11 u0 (fd 2 (.ref mq)) → atp f_11 u0 (fd 9 (.int sx)) → atp f_11 u0 (fd 10 (.int sy)) → atp f_11 rq (fd 0 (.int rl)) → atp f_11 rq (fd 1 (.int rb)) → atp f_11 rq (fd 2 (.int rr)) → atp f_11 rq (fd 3 (.int rt)) → atp f_11 mq (fd 0 (.int ml)) → atp f_11 mq (fd 1 (.int mb)) → atp f_11 mq (fd 2 (.int mr)) → atp f_11 mq (fd 3 (.int mt)) → W p l e rm_s_X2_valueAt s m args below meth c H locs 0 0 Q (F0 m 11 ls []) := by
    intro n11
    induction n11 with
    | zero => intro ls f_11 H locs v11_3 v11_4 hm11 hl h t_11 o_11 iv11_3 iv11_4 k11_u0_GZ k11_u0_3 k11_u0_2 k11_u0_9 k11_u0_10 k11_rq_0 k11_rq_1 k11_rq_2 k11_rq_3 k11_mq_0 k11_mq_1 k11_mq_2 k11_mq_3; exact absurd hm11 (by omega)
    | succ n11 ih11 =>
      intro ls f_11 H locs v11_3 v11_4 hm11 hl h t_11 o_11 iv11_3 iv11_4 k11_u0_GZ k11_u0_3 k11_u0_2 k11_u0_9 k11_u0_10 k11_rq_0 k11_rq_1 k11_rq_2 k11_rq_3 k11_mq_0 k11_mq_1 k11_mq_2 k11_mq_3
      have L28 : ∀ (n28 : Nat) (ls : Array Slot) (f_28 : hM) (H : Heap) (locs : List Loc) (v28_5 : Int32) (v28_6 : Int32), v28_6.toInt - (-60) < (n28 : Int) → lv_has ls 7 [(0, .ref u0), (1, .int u1), (2, .int u2), (3, .int v11_3), (4, .int v11_4), (5, .int v28_5), (6, .int v28_6)] → hw D b0 s.heap f_28 H locs → TI G 9 τ f_28 → Fr [] τ f f_28 → iv v11_4 0 69 → iv v28_5 (-2147483648) 2147483647 → iv v28_6 (-60) 69 → GZ τ f_28 u0 (inb sx sy rl rb rr rt) → atp f_28 u0 (fd 3 (.ref rq)) → atp f_28 u0 (fd 2 (.ref mq)) → atp f_28 u0 (fd 9 (.int sx)) → atp f_28 u0 (fd 10 (.int sy)) → atp f_28 rq (fd 0 (.int rl)) → atp f_28 rq (fd 1 (.int rb)) → atp f_28 rq (fd 2 (.int rr)) → atp f_28 rq (fd 3 (.int rt)) → atp f_28 mq (fd 0 (.int ml)) → atp f_28 mq (fd 1 (.int mb)) → atp f_28 mq (fd 2 (.int mr)) → atp f_28 mq (fd 3 (.int mt)) → W p l e rm_s_X2_valueAt s m args below meth c H locs 0 0 Q (F0 m 28 ls []) := by
        intro n28
        induction n28 with
        | zero => intro ls f_28 H locs v28_5 v28_6 hm28 hl h t_28 o_28 jv28_4 iv28_5 iv28_6 k28_u0_GZ k28_u0_3 k28_u0_2 k28_u0_9 k28_u0_10 k28_rq_0 k28_rq_1 k28_rq_2 k28_rq_3 k28_mq_0 k28_mq_1 k28_mq_2 k28_mq_3; exact absurd hm28 (by omega)
        | succ n28 ih28 =>
          intro ls f_28 H locs v28_5 v28_6 hm28 hl h t_28 o_28 jv28_4 iv28_5 iv28_6 k28_u0_GZ k28_u0_3 k28_u0_2 k28_u0_9 k28_u0_10 k28_rq_0 k28_rq_1 k28_rq_2 k28_rq_3 k28_mq_0 k28_mq_1 k28_mq_2 k28_mq_3
          refine lv_iload hx hb dX2_valueAt_28 (lv_at hl 6 rfl) ?_
          refine lv_if_lt (tgt := 59) hx hb dX2_valueAt_30 (by decide) (fun c1 => ?_) (fun c1 => ?_)
          · have c2 : v28_6.toInt < 0 := Int32.lt_iff_toInt_lt.mp c1
            have i3 : iv v28_6 (-60) (-1) := iv_Ll c2 iv28_6 (iv_k (x := 0) (k := 0) rfl) (by decide)
            refine lv_iload_n hx hb dX2_valueAt_59 rfl (lv_at hl 3 rfl) ?_
            refine lv_i2l hx hb dX2_valueAt_60 rfl (i_topL iv11_3 (fun w6 ew6 mw6 iw6 => ?_))
            refine lv_iload_n hx hb dX2_valueAt_61 rfl (lv_at hl 1 rfl) ?_
            refine lv_i2l hx hb dX2_valueAt_62 rfl (i_topL hu1 (fun w7 ew7 mw7 iw7 => ?_))
            refine lv_lmul hx hb dX2_valueAt_63 (lv_topl (fun w8 ew8 => ?_))
            refine lv_iload hx hb dX2_valueAt_64 (lv_at hl 5 rfl) ?_
            refine lv_i2l hx hb dX2_valueAt_66 rfl (i_topL iv28_5 (fun w9 ew9 mw9 iw9 => ?_))
            refine lv_ladd hx hb dX2_valueAt_67 (lv_topl (fun w10 ew10 => ?_))
            refine k_i (r_SN C h hl (host := "QuarterWalks") (As := [.long w10]) (rest := []) (s_X10_residue l D G b0 τ f_28 t_28 w10) mk_X10_residue (by decide) w_741 w_742 ⟨Nat.le_of_ble_eq_true rfl, Nat.le_of_ble_eq_true rfl⟩ rfl (Nat.le_of_ble_eq_true rfl) ⟨Nat.le_of_ble_eq_true rfl, Nat.le_of_ble_eq_true rfl⟩ rfl dX2_valueAt_68) h (fun r11 f12 H locs p13 h => ?_)
            obtain ⟨ir11, tf12, ogf12⟩ := p13
            have egf12 := Fr.nil2 ogf12
            subst egf12
            refine lv_istore_n (lv' := [(3, .int r11), (0, .ref u0), (1, .int u1), (2, .int u2), (4, .int v11_4), (5, .int v28_5), (6, .int v28_6)]) hx hb dX2_valueAt_71 rfl hl (by decide) rfl (fun ls hl => ?_)
            refine i_inc hx hb dX2_valueAt_72 hl (k := 4) rfl jv28_4 rfl (lo := (-1)) (hi := 68) (by decide) (by decide) (lv' := fun v => [(4, .int v), (3, .int r11), (0, .ref u0), (1, .int u1), (2, .int u2), (5, .int v28_5), (6, .int v28_6)]) (fun _ => rfl) (fun z14 ls ez14 mz14 iz14 hl => ?_)
            refine lv_goto (tgt := 11) hx hb dX2_valueAt_75 (by decide) ?_
            exact ih11 ls f_28 H locs r11 z14 (show z14.toInt - (-60) < _ by omega) (lv_cons hl 2 rfl (lv_cons hl 3 rfl (lv_cons hl 4 rfl (lv_cons hl 1 rfl (lv_cons hl 0 rfl (lv_nil hl)))))) h t_28 o_28 ir11 (iv_w iz14 (by decide)) k28_u0_GZ k28_u0_3 k28_u0_2 k28_u0_9 k28_u0_10 k28_rq_0 k28_rq_1 k28_rq_2 k28_rq_3 k28_mq_0 k28_mq_1 k28_mq_2 k28_mq_3
          · have c4 : 0 ≤ v28_6.toInt := Int32.le_iff_toInt_le.mp (iv_nlt c1)
            have i5 : iv v28_6 0 69 := iv_Er c4 (iv_k (x := 0) (k := 0) rfl) iv28_6 (by decide)
            refine lv_iload hx hb dX2_valueAt_33 (lv_at hl 5 rfl) ?_
            refine lv_i2l hx hb dX2_valueAt_35 rfl (i_topL iv28_5 (fun w15 ew15 mw15 iw15 => ?_))
            refine lv_iload_n hx hb dX2_valueAt_36 rfl (lv_at hl 2 rfl) ?_
            refine lv_i2l hx hb dX2_valueAt_37 rfl (i_topL hu2 (fun w16 ew16 mw16 iw16 => ?_))
            refine lv_lmul hx hb dX2_valueAt_38 (lv_topl (fun w17 ew17 => ?_))
            refine lv_aload_n hx hb dX2_valueAt_39 rfl (lv_at hl 0 rfl) ?_
            refine lv_iload hx hb dX2_valueAt_40 (lv_at hl 4 rfl) ?_
            refine lv_iload hx hb dX2_valueAt_42 (lv_at hl 6 rfl) ?_
            have gj18 : GJ τ f_28 u0 rq mq := ⟨sx, sy, rl, rb, rr, rt, ml, mb, mr, mt, ⟨trq, tmq⟩, ⟨k28_u0_3, k28_u0_2, k28_u0_9, k28_u0_10⟩, ⟨k28_rq_0, k28_rq_1, k28_rq_2, k28_rq_3⟩, ⟨k28_mq_0, k28_mq_1, k28_mq_2, k28_mq_3⟩, ⟨isx, isy, irl, irb, irr, irt, iml, imb, imr, imt⟩, ⟨by omega, by omega, by omega, by omega⟩, ⟨by omega, by omega, by omega, by omega⟩, k28_u0_GZ⟩
            obtain ⟨_, r19⟩ := t_rec t_28 hu0 (by decide) wf_20
            refine k_l (r_V C h hl (As := [.int v11_4, .int v28_6]) (rest := [.long w17]) (s_X2_seen l D G b0 τ f_28 t_28 u0 hu0 v11_4 (iv_w jv28_4 (by decide)) v28_6 (iv_w i5 (by decide)) rq mq gj18) r19 (Cn := RX2) (T := TX2) (N := 11) rfl rfl mk_X2_seen w_744 w_710 w_711 w_712 ⟨Nat.le_of_ble_eq_true rfl, Nat.le_of_ble_eq_true rfl⟩ rfl (Nat.le_of_ble_eq_true rfl) ⟨Nat.le_of_ble_eq_true rfl, Nat.le_of_ble_eq_true rfl⟩ rfl dX2_valueAt_44) h (fun r20 f21 H locs p22 h => ?_)
            obtain ⟨tf21, ogf21⟩ := p22
            have egf21 := Fr.nil2 ogf21
            subst egf21
            refine lv_ladd hx hb dX2_valueAt_47 (lv_topl (fun w23 ew23 => ?_))
            refine k_i (r_SN C h hl (host := "QuarterWalks") (As := [.long w23]) (rest := []) (s_X10_residue l D G b0 τ f_28 t_28 w23) mk_X10_residue (by decide) w_741 w_742 ⟨Nat.le_of_ble_eq_true rfl, Nat.le_of_ble_eq_true rfl⟩ rfl (Nat.le_of_ble_eq_true rfl) ⟨Nat.le_of_ble_eq_true rfl, Nat.le_of_ble_eq_true rfl⟩ rfl dX2_valueAt_48) h (fun r24 f25 H locs p26 h => ?_)
            obtain ⟨ir24, tf25, ogf25⟩ := p26
            have egf25 := Fr.nil2 ogf25
            subst egf25
            refine lv_istore (lv' := [(5, .int r24), (0, .ref u0), (1, .int u1), (2, .int u2), (3, .int v11_3), (4, .int v11_4), (6, .int v28_6)]) hx hb dX2_valueAt_51 hl (by decide) rfl (fun ls hl => ?_)
            refine i_inc hx hb dX2_valueAt_53 hl (k := 6) rfl i5 rfl (lo := (-1)) (hi := 68) (by decide) (by decide) (lv' := fun v => [(6, .int v), (5, .int r24), (0, .ref u0), (1, .int u1), (2, .int u2), (3, .int v11_3), (4, .int v11_4)]) (fun _ => rfl) (fun z27 ls ez27 mz27 iz27 hl => ?_)
            refine lv_goto (tgt := 28) hx hb dX2_valueAt_56 (by decide) ?_
            exact ih28 ls f_28 H locs r24 z27 (show z27.toInt - (-60) < _ by omega) (lv_cons hl 2 rfl (lv_cons hl 3 rfl (lv_cons hl 4 rfl (lv_cons hl 5 rfl (lv_cons hl 6 rfl (lv_cons hl 1 rfl (lv_cons hl 0 rfl (lv_nil hl)))))))) h t_28 o_28 jv28_4 ir24 (iv_w iz27 (by decide)) k28_u0_GZ k28_u0_3 k28_u0_2 k28_u0_9 k28_u0_10 k28_rq_0 k28_rq_1 k28_rq_2 k28_rq_3 k28_mq_0 k28_mq_1 k28_mq_2 k28_mq_3
      refine lv_iload hx hb dX2_valueAt_11 (lv_at hl 4 rfl) ?_
      refine lv_if_lt (tgt := 78) hx hb dX2_valueAt_13 (by decide) (fun c28 => ?_) (fun c28 => ?_)
      · have c29 : v11_4.toInt < 0 := Int32.lt_iff_toInt_lt.mp c28
        have i30 : iv v11_4 (-60) (-1) := iv_Ll c29 iv11_4 (iv_k (x := 0) (k := 0) rfl) (by decide)
        refine lv_iload_n hx hb dX2_valueAt_78 rfl (lv_at hl 3 rfl) ?_
        exact u_iret C h hr hQ (⟨iv11_3, t_11, o_11⟩) (Nat.le_of_ble_eq_true rfl) (Nat.le_of_ble_eq_true rfl) dX2_valueAt_79
      · have c31 : 0 ≤ v11_4.toInt := Int32.le_iff_toInt_le.mp (iv_nlt c28)
        have i32 : iv v11_4 0 69 := iv_Er c31 (iv_k (x := 0) (k := 0) rfl) iv11_4 (by decide)
        refine lv_iconst (v := 0) hx hb dX2_valueAt_16 (by decide) ?_
        refine lv_istore (lv' := [(5, .int 0), (0, .ref u0), (1, .int u1), (2, .int u2), (3, .int v11_3), (4, .int v11_4)]) hx hb dX2_valueAt_17 hl (by decide) rfl (fun ls hl => ?_)
        refine lv_aload_n hx hb dX2_valueAt_19 rfl (lv_at hl 1 rfl) ?_
        refine t_getfd C h t_11 hu0 (by decide) wf_20 (v := .ref rq) k11_u0_3 fl_X2_25 dX2_valueAt_20 ?_
        refine t_getfd C h t_11 trq (by decide) wf_23 (v := .int rt) k11_rq_3 fl_X2_69 dX2_valueAt_23 ?_
        refine lv_istore (lv' := [(6, .int rt), (5, .int 0), (0, .ref u0), (1, .int u1), (2, .int u2), (3, .int v11_3), (4, .int v11_4)]) hx hb dX2_valueAt_26 hl (by decide) rfl (fun ls hl => ?_)
        exact L28 130 ls f_11 H locs 0 rt (show rt.toInt - (-60) < _ by omega) (lv_cons hl 2 rfl (lv_cons hl 3 rfl (lv_cons hl 4 rfl (lv_cons hl 5 rfl (lv_cons hl 6 rfl (lv_cons hl 1 rfl (lv_cons hl 0 rfl (lv_nil hl)))))))) h t_11 o_11 i32 ⟨by decide, by decide⟩ irt k11_u0_GZ k11_u0_3 k11_u0_2 k11_u0_9 k11_u0_10 k11_rq_0 k11_rq_1 k11_rq_2 k11_rq_3 k11_mq_0 k11_mq_1 k11_mq_2 k11_mq_3
  refine lv_iconst (v := 0) hx hb dX2_valueAt_0 (by decide) ?_
  refine lv_istore_n (lv' := [(3, .int 0), (0, .ref u0), (1, .int u1), (2, .int u2)]) hx hb dX2_valueAt_1 rfl hl (by decide) rfl (fun ls hl => ?_)
  refine lv_aload_n hx hb dX2_valueAt_2 rfl (lv_at hl 1 rfl) ?_
  refine t_getfd C h t hu0 (by decide) wf_20 (v := .ref rq) kg3 fl_X2_25 dX2_valueAt_3 ?_
  refine t_getfd C h t trq (by decide) wf_23 (v := .int rr) krr fl_X2_66 dX2_valueAt_6 ?_
  refine lv_istore (lv' := [(4, .int rr), (3, .int 0), (0, .ref u0), (1, .int u1), (2, .int u2)]) hx hb dX2_valueAt_9 hl (by decide) rfl (fun ls hl => ?_)
  exact L11 130 ls f s.heap [] 0 rr (show rr.toInt - (-60) < _ by omega) (lv_cons hl 2 rfl (lv_cons hl 3 rfl (lv_cons hl 4 rfl (lv_cons hl 1 rfl (lv_cons hl 0 rfl (lv_nil hl)))))) h t o ⟨by decide, by decide⟩ irr hGZ kg3 kg2 ksx ksy krl krb krr krt kml kmb kmr kmt
abbrev rm_s_X2_highest : Room := { frames := 2, cells := 0, slots := 0, locals := 44 }
set_option maxRecDepth 100000 in
set_option maxHeartbeats 4000000 in
theorem s_X2_highest (l : Launch) (D : va_G) (G : Nat → Nat) (b0 : Nat) (τ : Nat → Nat) (f : hM) (t : TI G 9 τ f) (u0 : Nat) (hu0 : τ u0 = 20) (u1 : Int32) (hu1 : iv u1 (-2147483648) 2147483647) (rq mq : Nat) (hGJ : GJ τ f u0 rq mq) : mI l yX2_highest cX2_highest 8 (.int) rm_s_X2_highest D G b0 f [.ref u0, .int u1] (fun r f1 => iv r (-2147483648) 2147483647 ∧ TI G 9 τ f1 ∧ Fr [] τ f f1) := by
  refine met2 (own := RX2) (by decide) rfl (Nat.le_of_ble_eq_true rfl) ?_
  intro p e s m args below meth c ls Q hQ C hr hini hl h
  have hl : lv_has ls 8 [(0, .ref u0), (1, .int u1)] := hl
  obtain ⟨hx, hb, hml, hown, hts, hE0, hlk⟩ := id C
  have o := Fr.rf [] τ f
  obtain ⟨sx, sy, rl, rb, rr, rt, ml, mb, mr, mt, ⟨trq, tmq⟩, ⟨kg3, kg2, ksx, ksy⟩, ⟨krl, krb, krr, krt⟩, ⟨kml, kmb, kmr, kmt⟩, ⟨isx, isy, irl, irb, irr, irt, iml, imb, imr, imt⟩, ⟨gr1, gr2, gr3, gr4⟩, ⟨gr5, gr6, gr7, gr8⟩, hGZ⟩ := hGJ
  have L17 : ∀ (n17 : Nat) (ls : Array Slot) (f_17 : hM) (H : Heap) (locs : List Loc) (v17_2 : Int64) (v17_4 : Int32) (v17_5 : Int32) (v17_6 : Int32), 70 - v17_6.toInt < (n17 : Int) → lv_has ls 8 [(0, .ref u0), (1, .int u1), (2, .long v17_2), (4, .int v17_4), (5, .int v17_5), (6, .int v17_6)] → hw D b0 s.heap f_17 H locs → TI G 9 τ f_17 → Fr [] τ f f_17 → iv v17_4 (-60) 69 → iv v17_5 (-60) 69 → iv v17_6 (-60) 70 → GZ τ f_17 u0 (inb sx sy rl rb rr rt) → atp f_17 u0 (fd 3 (.ref rq)) → atp f_17 u0 (fd 2 (.ref mq)) → atp f_17 u0 (fd 9 (.int sx)) → atp f_17 u0 (fd 10 (.int sy)) → atp f_17 rq (fd 0 (.int rl)) → atp f_17 rq (fd 1 (.int rb)) → atp f_17 rq (fd 2 (.int rr)) → atp f_17 rq (fd 3 (.int rt)) → atp f_17 mq (fd 0 (.int ml)) → atp f_17 mq (fd 1 (.int mb)) → atp f_17 mq (fd 2 (.int mr)) → atp f_17 mq (fd 3 (.int mt)) → W p l e rm_s_X2_highest s m args below meth c H locs 0 0 Q (F0 m 17 ls []) := by
    intro n17
    induction n17 with
    | zero => intro ls f_17 H locs v17_2 v17_4 v17_5 v17_6 hm17 hl h t_17 o_17 iv17_4 iv17_5 iv17_6 k17_u0_GZ k17_u0_3 k17_u0_2 k17_u0_9 k17_u0_10 k17_rq_0 k17_rq_1 k17_rq_2 k17_rq_3 k17_mq_0 k17_mq_1 k17_mq_2 k17_mq_3; exact absurd hm17 (by omega)
    | succ n17 ih17 =>
      intro ls f_17 H locs v17_2 v17_4 v17_5 v17_6 hm17 hl h t_17 o_17 iv17_4 iv17_5 iv17_6 k17_u0_GZ k17_u0_3 k17_u0_2 k17_u0_9 k17_u0_10 k17_rq_0 k17_rq_1 k17_rq_2 k17_rq_3 k17_mq_0 k17_mq_1 k17_mq_2 k17_mq_3
      have L38 : ∀ (n38 : Nat) (ls : Array Slot) (f_38 : hM) (H : Heap) (locs : List Loc) (v38_2 : Int64) (v38_4 : Int32) (v38_5 : Int32) (v38_7 : Int32), 70 - v38_7.toInt < (n38 : Int) → lv_has ls 8 [(0, .ref u0), (1, .int u1), (2, .long v38_2), (4, .int v38_4), (5, .int v38_5), (6, .int v17_6), (7, .int v38_7)] → hw D b0 s.heap f_38 H locs → TI G 9 τ f_38 → Fr [] τ f f_38 → iv v38_4 (-60) 69 → iv v38_5 (-60) 69 → iv v17_6 (-60) 69 → iv v38_7 (-60) 70 → GZ τ f_38 u0 (inb sx sy rl rb rr rt) → atp f_38 u0 (fd 3 (.ref rq)) → atp f_38 u0 (fd 2 (.ref mq)) → atp f_38 u0 (fd 9 (.int sx)) → atp f_38 u0 (fd 10 (.int sy)) → atp f_38 rq (fd 0 (.int rl)) → atp f_38 rq (fd 1 (.int rb)) → atp f_38 rq (fd 2 (.int rr)) → atp f_38 rq (fd 3 (.int rt)) → atp f_38 mq (fd 0 (.int ml)) → atp f_38 mq (fd 1 (.int mb)) → atp f_38 mq (fd 2 (.int mr)) → atp f_38 mq (fd 3 (.int mt)) → W p l e rm_s_X2_highest s m args below meth c H locs 0 0 Q (F0 m 38 ls []) := by
        intro n38
        induction n38 with
        | zero => intro ls f_38 H locs v38_2 v38_4 v38_5 v38_7 hm38 hl h t_38 o_38 iv38_4 iv38_5 jv38_6 iv38_7 k38_u0_GZ k38_u0_3 k38_u0_2 k38_u0_9 k38_u0_10 k38_rq_0 k38_rq_1 k38_rq_2 k38_rq_3 k38_mq_0 k38_mq_1 k38_mq_2 k38_mq_3; exact absurd hm38 (by omega)
        | succ n38 ih38 =>
          intro ls f_38 H locs v38_2 v38_4 v38_5 v38_7 hm38 hl h t_38 o_38 iv38_4 iv38_5 jv38_6 iv38_7 k38_u0_GZ k38_u0_3 k38_u0_2 k38_u0_9 k38_u0_10 k38_rq_0 k38_rq_1 k38_rq_2 k38_rq_3 k38_mq_0 k38_mq_1 k38_mq_2 k38_mq_3
          refine lv_iload hx hb dX2_highest_38 (lv_at hl 6 rfl) ?_
          refine lv_aload_n hx hb dX2_highest_40 rfl (lv_at hl 0 rfl) ?_
          refine t_getfd C h t_38 hu0 (by decide) wf_20 (v := .ref rq) k38_u0_3 fl_X2_25 dX2_highest_41 ?_
          refine t_getfd C h t_38 trq (by decide) wf_23 (v := .int rt) k38_rq_3 fl_X2_69 dX2_highest_44 ?_
          refine lv_icmp_gt (tgt := 86) hx hb dX2_highest_47 (by decide) (fun c1 => ?_) (fun c1 => ?_)
          · have c2 : rt.toInt < v38_7.toInt := Int32.lt_iff_toInt_lt.mp c1
            have i3 : iv v38_7 (-59) 70 := iv_Lr c2 irt iv38_7 (by decide)
            refine i_inc hx hb dX2_highest_86 hl (k := 5) rfl jv38_6 rfl (lo := (-59)) (hi := 70) (by decide) (by decide) (lv' := fun v => [(6, .int v), (0, .ref u0), (1, .int u1), (2, .long v38_2), (4, .int v38_4), (5, .int v38_5), (7, .int v38_7)]) (fun _ => rfl) (fun z6 ls ez6 mz6 iz6 hl => ?_)
            refine lv_goto (tgt := 17) hx hb dX2_highest_89 (by decide) ?_
            exact ih17 ls f_38 H locs v38_2 v38_4 v38_5 z6 (show 70 - z6.toInt < _ by omega) (lv_cons hl 1 rfl (lv_cons hl 2 rfl (lv_cons hl 3 rfl (lv_cons hl 4 rfl (lv_cons hl 5 rfl (lv_cons hl 0 rfl (lv_nil hl))))))) h t_38 o_38 iv38_4 iv38_5 (iv_w iz6 (by decide)) k38_u0_GZ k38_u0_3 k38_u0_2 k38_u0_9 k38_u0_10 k38_rq_0 k38_rq_1 k38_rq_2 k38_rq_3 k38_mq_0 k38_mq_1 k38_mq_2 k38_mq_3
          · have c4 : v38_7.toInt ≤ rt.toInt := Int32.le_iff_toInt_le.mp (iv_nlt c1)
            have i5 : iv v38_7 (-60) 69 := iv_El c4 iv38_7 irt (by decide)
            refine lv_aload_n hx hb dX2_highest_50 rfl (lv_at hl 0 rfl) ?_
            refine lv_iload hx hb dX2_highest_51 (lv_at hl 5 rfl) ?_
            refine lv_iload hx hb dX2_highest_53 (lv_at hl 6 rfl) ?_
            have gj7 : GJ τ f_38 u0 rq mq := ⟨sx, sy, rl, rb, rr, rt, ml, mb, mr, mt, ⟨trq, tmq⟩, ⟨k38_u0_3, k38_u0_2, k38_u0_9, k38_u0_10⟩, ⟨k38_rq_0, k38_rq_1, k38_rq_2, k38_rq_3⟩, ⟨k38_mq_0, k38_mq_1, k38_mq_2, k38_mq_3⟩, ⟨isx, isy, irl, irb, irr, irt, iml, imb, imr, imt⟩, ⟨by omega, by omega, by omega, by omega⟩, ⟨by omega, by omega, by omega, by omega⟩, k38_u0_GZ⟩
            obtain ⟨_, r8⟩ := t_rec t_38 hu0 (by decide) wf_20
            refine k_l (r_V C h hl (As := [.int v17_6, .int v38_7]) (rest := []) (s_X2_seen l D G b0 τ f_38 t_38 u0 hu0 v17_6 (iv_w jv38_6 (by decide)) v38_7 (iv_w i5 (by decide)) rq mq gj7) r8 (Cn := RX2) (T := TX2) (N := 11) rfl rfl mk_X2_seen w_744 w_710 w_711 w_712 ⟨Nat.le_of_ble_eq_true rfl, Nat.le_of_ble_eq_true rfl⟩ rfl (Nat.le_of_ble_eq_true rfl) ⟨Nat.le_of_ble_eq_true rfl, Nat.le_of_ble_eq_true rfl⟩ rfl dX2_highest_55) h (fun r9 f10 H locs p11 h => ?_)
            obtain ⟨tf10, ogf10⟩ := p11
            have egf10 := Fr.nil2 ogf10
            subst egf10
            refine lv_lload_n hx hb dX2_highest_58 rfl (lv_at hl 2 rfl) ?_
            refine W.lcmp hx hb dX2_highest_59 (i_topc (fun z12 ez12 mz12 iz12 => ?_))
            refine lv_if_le (tgt := 80) hx hb dX2_highest_60 (by decide) (fun c13 => ?_) (fun c13 => ?_)
            · have c14 : z12.toInt ≤ 0 := Int32.le_iff_toInt_le.mp c13
              have i15 : iv z12 (-1) 0 := iv_El c14 iz12 (iv_k (x := 0) (k := 0) rfl) (by decide)
              refine i_inc hx hb dX2_highest_80 hl (k := 6) rfl i5 rfl (lo := (-59)) (hi := 70) (by decide) (by decide) (lv' := fun v => [(7, .int v), (0, .ref u0), (1, .int u1), (2, .long v38_2), (4, .int v38_4), (5, .int v38_5), (6, .int v17_6)]) (fun _ => rfl) (fun z18 ls ez18 mz18 iz18 hl => ?_)
              refine lv_goto (tgt := 38) hx hb dX2_highest_83 (by decide) ?_
              exact ih38 ls f_38 H locs v38_2 v38_4 v38_5 z18 (show 70 - z18.toInt < _ by omega) (lv_cons hl 1 rfl (lv_cons hl 2 rfl (lv_cons hl 3 rfl (lv_cons hl 4 rfl (lv_cons hl 5 rfl (lv_cons hl 6 rfl (lv_cons hl 0 rfl (lv_nil hl)))))))) h t_38 o_38 iv38_4 iv38_5 jv38_6 (iv_w iz18 (by decide)) k38_u0_GZ k38_u0_3 k38_u0_2 k38_u0_9 k38_u0_10 k38_rq_0 k38_rq_1 k38_rq_2 k38_rq_3 k38_mq_0 k38_mq_1 k38_mq_2 k38_mq_3
            · have c16 : 0 < z12.toInt := Int32.lt_iff_toInt_lt.mp (iv_nle c13)
              have i17 : iv z12 1 1 := iv_Lr c16 (iv_k (x := 0) (k := 0) rfl) iz12 (by decide)
              refine lv_aload_n hx hb dX2_highest_63 rfl (lv_at hl 0 rfl) ?_
              refine lv_iload hx hb dX2_highest_64 (lv_at hl 5 rfl) ?_
              refine lv_iload hx hb dX2_highest_66 (lv_at hl 6 rfl) ?_
              have gj19 : GJ τ f_38 u0 rq mq := ⟨sx, sy, rl, rb, rr, rt, ml, mb, mr, mt, ⟨trq, tmq⟩, ⟨k38_u0_3, k38_u0_2, k38_u0_9, k38_u0_10⟩, ⟨k38_rq_0, k38_rq_1, k38_rq_2, k38_rq_3⟩, ⟨k38_mq_0, k38_mq_1, k38_mq_2, k38_mq_3⟩, ⟨isx, isy, irl, irb, irr, irt, iml, imb, imr, imt⟩, ⟨by omega, by omega, by omega, by omega⟩, ⟨by omega, by omega, by omega, by omega⟩, k38_u0_GZ⟩
              obtain ⟨_, r20⟩ := t_rec t_38 hu0 (by decide) wf_20
              refine k_l (r_V C h hl (As := [.int v17_6, .int v38_7]) (rest := []) (s_X2_seen l D G b0 τ f_38 t_38 u0 hu0 v17_6 (iv_w jv38_6 (by decide)) v38_7 (iv_w i5 (by decide)) rq mq gj19) r20 (Cn := RX2) (T := TX2) (N := 11) rfl rfl mk_X2_seen w_744 w_710 w_711 w_712 ⟨Nat.le_of_ble_eq_true rfl, Nat.le_of_ble_eq_true rfl⟩ rfl (Nat.le_of_ble_eq_true rfl) ⟨Nat.le_of_ble_eq_true rfl, Nat.le_of_ble_eq_true rfl⟩ rfl dX2_highest_68) h (fun r21 f22 H locs p23 h => ?_)
              obtain ⟨tf22, ogf22⟩ := p23
              have egf22 := Fr.nil2 ogf22
              subst egf22
              refine lv_lstore_n (lv' := [(2, .long r21), (0, .ref u0), (1, .int u1), (4, .int v38_4), (5, .int v38_5), (6, .int v17_6), (7, .int v38_7)]) hx hb dX2_highest_71 rfl hl (by decide) rfl (fun ls hl => ?_)
              refine lv_iload hx hb dX2_highest_72 (lv_at hl 5 rfl) ?_
              refine lv_istore (lv' := [(4, .int v17_6), (2, .long r21), (0, .ref u0), (1, .int u1), (5, .int v38_5), (6, .int v17_6), (7, .int v38_7)]) hx hb dX2_highest_74 hl (by decide) rfl (fun ls hl => ?_)
              refine lv_iload hx hb dX2_highest_76 (lv_at hl 6 rfl) ?_
              refine lv_istore (lv' := [(5, .int v38_7), (4, .int v17_6), (2, .long r21), (0, .ref u0), (1, .int u1), (6, .int v17_6), (7, .int v38_7)]) hx hb dX2_highest_78 hl (by decide) rfl (fun ls hl => ?_)
              refine i_inc hx hb dX2_highest_80 hl (k := 6) rfl i5 rfl (lo := (-59)) (hi := 70) (by decide) (by decide) (lv' := fun v => [(7, .int v), (5, .int v38_7), (4, .int v17_6), (2, .long r21), (0, .ref u0), (1, .int u1), (6, .int v17_6)]) (fun _ => rfl) (fun z24 ls ez24 mz24 iz24 hl => ?_)
              refine lv_goto (tgt := 38) hx hb dX2_highest_83 (by decide) ?_
              exact ih38 ls f_38 H locs r21 v17_6 v38_7 z24 (show 70 - z24.toInt < _ by omega) (lv_cons hl 4 rfl (lv_cons hl 5 rfl (lv_cons hl 3 rfl (lv_cons hl 2 rfl (lv_cons hl 1 rfl (lv_cons hl 6 rfl (lv_cons hl 0 rfl (lv_nil hl)))))))) h t_38 o_38 jv38_6 i5 jv38_6 (iv_w iz24 (by decide)) k38_u0_GZ k38_u0_3 k38_u0_2 k38_u0_9 k38_u0_10 k38_rq_0 k38_rq_1 k38_rq_2 k38_rq_3 k38_mq_0 k38_mq_1 k38_mq_2 k38_mq_3
      refine lv_iload hx hb dX2_highest_17 (lv_at hl 5 rfl) ?_
      refine lv_aload_n hx hb dX2_highest_19 rfl (lv_at hl 0 rfl) ?_
      refine t_getfd C h t_17 hu0 (by decide) wf_20 (v := .ref rq) k17_u0_3 fl_X2_25 dX2_highest_20 ?_
      refine t_getfd C h t_17 trq (by decide) wf_23 (v := .int rr) k17_rq_2 fl_X2_66 dX2_highest_23 ?_
      refine lv_icmp_gt (tgt := 92) hx hb dX2_highest_26 (by decide) (fun c25 => ?_) (fun c25 => ?_)
      · have c26 : rr.toInt < v17_6.toInt := Int32.lt_iff_toInt_lt.mp c25
        have i27 : iv v17_6 (-59) 70 := iv_Lr c26 irr iv17_6 (by decide)
        refine lv_lload_n hx hb dX2_highest_92 rfl (lv_at hl 2 rfl) ?_
        refine lv_lconst (v := 0) hx hb dX2_highest_93 (by decide) ?_
        refine W.lcmp hx hb dX2_highest_94 (i_topc (fun z30 ez30 mz30 iz30 => ?_))
        refine lv_if_ne (tgt := 101) hx hb dX2_highest_95 (by decide) (fun c31 => ?_) (fun c31 => ?_)
        · have c32 : z30.toInt ≠ 0 := fun z_ => c31 (Int32.toInt_inj.mp z_)
          refine lv_iload_n hx hb dX2_highest_101 rfl (lv_at hl 1 rfl) ?_
          refine lv_if_ne (tgt := 108) hx hb dX2_highest_102 (by decide) (fun c35 => ?_) (fun c35 => ?_)
          · have c36 : u1.toInt ≠ 0 := fun z_ => c35 (Int32.toInt_inj.mp z_)
            refine lv_iload_n hx hb dX2_highest_108 rfl (lv_at hl 1 rfl) ?_
            refine lv_iconst (v := 1) hx hb dX2_highest_109 (by decide) ?_
            refine lv_icmp_ne (tgt := 118) hx hb dX2_highest_110 (by decide) (fun c39 => ?_) (fun c39 => ?_)
            · have c40 : u1.toInt ≠ 1 := fun z_ => c39 (Int32.toInt_inj.mp z_)
              refine lv_lload_n hx hb dX2_highest_118 rfl (lv_at hl 2 rfl) ?_
              refine lv_l2i hx hb dX2_highest_119 rfl (i_top (iv_any _) (fun z43 ez43 iz43 => ?_))
              exact u_iret C h hr hQ (⟨iz43, t_17, o_17⟩) (Nat.le_of_ble_eq_true rfl) (Nat.le_of_ble_eq_true rfl) dX2_highest_120
            · have c41 : u1.toInt = 1 := congrArg Int32.toInt c39
              have i42 : iv u1 1 1 := iv_Q c41 hu1 (iv_k (x := 1) (k := 1) rfl) (by decide)
              refine lv_iload hx hb dX2_highest_113 (lv_at hl 4 rfl) ?_
              refine lv_goto (tgt := 120) hx hb dX2_highest_115 (by decide) ?_
              exact u_iret C h hr hQ (⟨(iv_w iv17_5 (by decide)), t_17, o_17⟩) (Nat.le_of_ble_eq_true rfl) (Nat.le_of_ble_eq_true rfl) dX2_highest_120
          · have c37 : u1.toInt = 0 := congrArg Int32.toInt c35
            have i38 : iv u1 0 0 := iv_Q c37 hu1 (iv_k (x := 0) (k := 0) rfl) (by decide)
            refine lv_iload hx hb dX2_highest_105 (lv_at hl 3 rfl) ?_
            exact u_iret C h hr hQ (⟨(iv_w iv17_4 (by decide)), t_17, o_17⟩) (Nat.le_of_ble_eq_true rfl) (Nat.le_of_ble_eq_true rfl) dX2_highest_107
        · have c33 : z30.toInt = 0 := congrArg Int32.toInt c31
          have i34 : iv z30 0 0 := iv_Q c33 iz30 (iv_k (x := 0) (k := 0) rfl) (by decide)
          refine lv_ldc (v := -1000000) hx hb hown (hts _ w_904) dX2_highest_98 ?_
          exact u_iret C h hr hQ (⟨⟨by decide, by decide⟩, t_17, o_17⟩) (Nat.le_of_ble_eq_true rfl) (Nat.le_of_ble_eq_true rfl) dX2_highest_100
      · have c28 : v17_6.toInt ≤ rr.toInt := Int32.le_iff_toInt_le.mp (iv_nlt c25)
        have i29 : iv v17_6 (-60) 69 := iv_El c28 iv17_6 irr (by decide)
        refine lv_aload_n hx hb dX2_highest_29 rfl (lv_at hl 0 rfl) ?_
        refine t_getfd C h t_17 hu0 (by decide) wf_20 (v := .ref rq) k17_u0_3 fl_X2_25 dX2_highest_30 ?_
        refine t_getfd C h t_17 trq (by decide) wf_23 (v := .int rb) k17_rq_1 fl_X2_63 dX2_highest_33 ?_
        refine lv_istore (lv' := [(7, .int rb), (0, .ref u0), (1, .int u1), (2, .long v17_2), (4, .int v17_4), (5, .int v17_5), (6, .int v17_6)]) hx hb dX2_highest_36 hl (by decide) rfl (fun ls hl => ?_)
        exact L38 131 ls f_17 H locs v17_2 v17_4 v17_5 rb (show 70 - rb.toInt < _ by omega) (lv_cons hl 1 rfl (lv_cons hl 2 rfl (lv_cons hl 3 rfl (lv_cons hl 4 rfl (lv_cons hl 5 rfl (lv_cons hl 6 rfl (lv_cons hl 0 rfl (lv_nil hl)))))))) h t_17 o_17 iv17_4 iv17_5 i29 (iv_w irb (by decide)) k17_u0_GZ k17_u0_3 k17_u0_2 k17_u0_9 k17_u0_10 k17_rq_0 k17_rq_1 k17_rq_2 k17_rq_3 k17_mq_0 k17_mq_1 k17_mq_2 k17_mq_3
  refine lv_lconst (v := 0) hx hb dX2_highest_0 (by decide) ?_
  refine lv_lstore_n (lv' := [(2, .long 0), (0, .ref u0), (1, .int u1)]) hx hb dX2_highest_1 rfl hl (by decide) rfl (fun ls hl => ?_)
  refine lv_iconst (v := 0) hx hb dX2_highest_2 (by decide) ?_
  refine lv_istore (lv' := [(4, .int 0), (2, .long 0), (0, .ref u0), (1, .int u1)]) hx hb dX2_highest_3 hl (by decide) rfl (fun ls hl => ?_)
  refine lv_iconst (v := 0) hx hb dX2_highest_5 (by decide) ?_
  refine lv_istore (lv' := [(5, .int 0), (4, .int 0), (2, .long 0), (0, .ref u0), (1, .int u1)]) hx hb dX2_highest_6 hl (by decide) rfl (fun ls hl => ?_)
  refine lv_aload_n hx hb dX2_highest_8 rfl (lv_at hl 3 rfl) ?_
  refine t_getfd C h t hu0 (by decide) wf_20 (v := .ref rq) kg3 fl_X2_25 dX2_highest_9 ?_
  refine t_getfd C h t trq (by decide) wf_23 (v := .int rl) krl fl_X2_60 dX2_highest_12 ?_
  refine lv_istore (lv' := [(6, .int rl), (5, .int 0), (4, .int 0), (2, .long 0), (0, .ref u0), (1, .int u1)]) hx hb dX2_highest_15 hl (by decide) rfl (fun ls hl => ?_)
  exact L17 131 ls f s.heap [] 0 0 0 rl (show 70 - rl.toInt < _ by omega) (lv_cons hl 4 rfl (lv_cons hl 5 rfl (lv_cons hl 3 rfl (lv_cons hl 2 rfl (lv_cons hl 1 rfl (lv_cons hl 0 rfl (lv_nil hl))))))) h t o ⟨by decide, by decide⟩ ⟨by decide, by decide⟩ (iv_w irl (by decide)) hGZ kg3 kg2 ksx ksy krl krb krr krt kml kmb kmr kmt
abbrev rm_s_X2_filledCells : Room := { frames := 2, cells := 0, slots := 0, locals := 44 }
set_option maxRecDepth 100000 in
set_option maxHeartbeats 4000000 in
theorem s_X2_filledCells (l : Launch) (D : va_G) (G : Nat → Nat) (b0 : Nat) (τ : Nat → Nat) (f : hM) (t : TI G 9 τ f) (u0 : Nat) (hu0 : τ u0 = 20) (rq mq : Nat) (hGJ : GJ τ f u0 rq mq) : mI l yX2_filledCells cX2_filledCells 4 (.int) rm_s_X2_filledCells D G b0 f [.ref u0] (fun r f1 => iv r (-2147483648) 2147483647 ∧ TI G 9 τ f1 ∧ Fr [] τ f f1) := by
  refine met2 (own := RX2) (by decide) rfl (Nat.le_of_ble_eq_true rfl) ?_
  intro p e s m args below meth c ls Q hQ C hr hini hl h
  have hl : lv_has ls 4 [(0, .ref u0)] := hl
  obtain ⟨hx, hb, hml, hown, hts, hE0, hlk⟩ := id C
  have o := Fr.rf [] τ f
  obtain ⟨sx, sy, rl, rb, rr, rt, ml, mb, mr, mt, ⟨trq, tmq⟩, ⟨kg3, kg2, ksx, ksy⟩, ⟨krl, krb, krr, krt⟩, ⟨kml, kmb, kmr, kmt⟩, ⟨isx, isy, irl, irb, irr, irt, iml, imb, imr, imt⟩, ⟨gr1, gr2, gr3, gr4⟩, ⟨gr5, gr6, gr7, gr8⟩, hGZ⟩ := hGJ
  have L10 : ∀ (n10 : Nat) (ls : Array Slot) (f_10 : hM) (H : Heap) (locs : List Loc) (v10_1 : Int32) (v10_2 : Int32), 70 - v10_2.toInt < (n10 : Int) → lv_has ls 4 [(0, .ref u0), (1, .int v10_1), (2, .int v10_2)] → hw D b0 s.heap f_10 H locs → TI G 9 τ f_10 → Fr [] τ f f_10 → iv v10_1 (-2147483648) 2147483647 → iv v10_2 (-60) 70 → GZ τ f_10 u0 (inb sx sy rl rb rr rt) → atp f_10 u0 (fd 3 (.ref rq)) → atp f_10 u0 (fd 2 (.ref mq)) → atp f_10 u0 (fd 9 (.int sx)) → atp f_10 u0 (fd 10 (.int sy)) → atp f_10 rq (fd 0 (.int rl)) → atp f_10 rq (fd 1 (.int rb)) → atp f_10 rq (fd 2 (.int rr)) → atp f_10 rq (fd 3 (.int rt)) → atp f_10 mq (fd 0 (.int ml)) → atp f_10 mq (fd 1 (.int mb)) → atp f_10 mq (fd 2 (.int mr)) → atp f_10 mq (fd 3 (.int mt)) → W p l e rm_s_X2_filledCells s m args below meth c H locs 0 0 Q (F0 m 10 ls []) := by
    intro n10
    induction n10 with
    | zero => intro ls f_10 H locs v10_1 v10_2 hm10 hl h t_10 o_10 iv10_1 iv10_2 k10_u0_GZ k10_u0_3 k10_u0_2 k10_u0_9 k10_u0_10 k10_rq_0 k10_rq_1 k10_rq_2 k10_rq_3 k10_mq_0 k10_mq_1 k10_mq_2 k10_mq_3; exact absurd hm10 (by omega)
    | succ n10 ih10 =>
      intro ls f_10 H locs v10_1 v10_2 hm10 hl h t_10 o_10 iv10_1 iv10_2 k10_u0_GZ k10_u0_3 k10_u0_2 k10_u0_9 k10_u0_10 k10_rq_0 k10_rq_1 k10_rq_2 k10_rq_3 k10_mq_0 k10_mq_1 k10_mq_2 k10_mq_3
      have L29 : ∀ (n29 : Nat) (ls : Array Slot) (f_29 : hM) (H : Heap) (locs : List Loc) (v29_1 : Int32) (v29_3 : Int32), 70 - v29_3.toInt < (n29 : Int) → lv_has ls 4 [(0, .ref u0), (1, .int v29_1), (2, .int v10_2), (3, .int v29_3)] → hw D b0 s.heap f_29 H locs → TI G 9 τ f_29 → Fr [] τ f f_29 → iv v29_1 (-2147483648) 2147483647 → iv v10_2 (-60) 69 → iv v29_3 (-60) 70 → GZ τ f_29 u0 (inb sx sy rl rb rr rt) → atp f_29 u0 (fd 3 (.ref rq)) → atp f_29 u0 (fd 2 (.ref mq)) → atp f_29 u0 (fd 9 (.int sx)) → atp f_29 u0 (fd 10 (.int sy)) → atp f_29 rq (fd 0 (.int rl)) → atp f_29 rq (fd 1 (.int rb)) → atp f_29 rq (fd 2 (.int rr)) → atp f_29 rq (fd 3 (.int rt)) → atp f_29 mq (fd 0 (.int ml)) → atp f_29 mq (fd 1 (.int mb)) → atp f_29 mq (fd 2 (.int mr)) → atp f_29 mq (fd 3 (.int mt)) → W p l e rm_s_X2_filledCells s m args below meth c H locs 0 0 Q (F0 m 29 ls []) := by
        intro n29
        induction n29 with
        | zero => intro ls f_29 H locs v29_1 v29_3 hm29 hl h t_29 o_29 iv29_1 jv29_2 iv29_3 k29_u0_GZ k29_u0_3 k29_u0_2 k29_u0_9 k29_u0_10 k29_rq_0 k29_rq_1 k29_rq_2 k29_rq_3 k29_mq_0 k29_mq_1 k29_mq_2 k29_mq_3; exact absurd hm29 (by omega)
        | succ n29 ih29 =>
          intro ls f_29 H locs v29_1 v29_3 hm29 hl h t_29 o_29 iv29_1 jv29_2 iv29_3 k29_u0_GZ k29_u0_3 k29_u0_2 k29_u0_9 k29_u0_10 k29_rq_0 k29_rq_1 k29_rq_2 k29_rq_3 k29_mq_0 k29_mq_1 k29_mq_2 k29_mq_3
          refine lv_iload_n hx hb dX2_filledCells_29 rfl (lv_at hl 3 rfl) ?_
          refine lv_aload_n hx hb dX2_filledCells_30 rfl (lv_at hl 0 rfl) ?_
          refine t_getfd C h t_29 hu0 (by decide) wf_20 (v := .ref rq) k29_u0_3 fl_X2_25 dX2_filledCells_31 ?_
          refine t_getfd C h t_29 trq (by decide) wf_23 (v := .int rt) k29_rq_3 fl_X2_69 dX2_filledCells_34 ?_
          refine lv_icmp_gt (tgt := 60) hx hb dX2_filledCells_37 (by decide) (fun c1 => ?_) (fun c1 => ?_)
          · have c2 : rt.toInt < v29_3.toInt := Int32.lt_iff_toInt_lt.mp c1
            have i3 : iv v29_3 (-59) 70 := iv_Lr c2 irt iv29_3 (by decide)
            refine i_inc hx hb dX2_filledCells_60 hl (k := 2) rfl jv29_2 rfl (lo := (-59)) (hi := 70) (by decide) (by decide) (lv' := fun v => [(2, .int v), (0, .ref u0), (1, .int v29_1), (3, .int v29_3)]) (fun _ => rfl) (fun z6 ls ez6 mz6 iz6 hl => ?_)
            refine lv_goto (tgt := 10) hx hb dX2_filledCells_63 (by decide) ?_
            exact ih10 ls f_29 H locs v29_1 z6 (show 70 - z6.toInt < _ by omega) (lv_cons hl 1 rfl (lv_cons hl 2 rfl (lv_cons hl 0 rfl (lv_nil hl)))) h t_29 o_29 iv29_1 (iv_w iz6 (by decide)) k29_u0_GZ k29_u0_3 k29_u0_2 k29_u0_9 k29_u0_10 k29_rq_0 k29_rq_1 k29_rq_2 k29_rq_3 k29_mq_0 k29_mq_1 k29_mq_2 k29_mq_3
          · have c4 : v29_3.toInt ≤ rt.toInt := Int32.le_iff_toInt_le.mp (iv_nlt c1)
            have i5 : iv v29_3 (-60) 69 := iv_El c4 iv29_3 irt (by decide)
            refine lv_aload_n hx hb dX2_filledCells_40 rfl (lv_at hl 0 rfl) ?_
            refine lv_iload_n hx hb dX2_filledCells_41 rfl (lv_at hl 2 rfl) ?_
            refine lv_iload_n hx hb dX2_filledCells_42 rfl (lv_at hl 3 rfl) ?_
            have gj7 : GJ τ f_29 u0 rq mq := ⟨sx, sy, rl, rb, rr, rt, ml, mb, mr, mt, ⟨trq, tmq⟩, ⟨k29_u0_3, k29_u0_2, k29_u0_9, k29_u0_10⟩, ⟨k29_rq_0, k29_rq_1, k29_rq_2, k29_rq_3⟩, ⟨k29_mq_0, k29_mq_1, k29_mq_2, k29_mq_3⟩, ⟨isx, isy, irl, irb, irr, irt, iml, imb, imr, imt⟩, ⟨by omega, by omega, by omega, by omega⟩, ⟨by omega, by omega, by omega, by omega⟩, k29_u0_GZ⟩
            obtain ⟨_, r8⟩ := t_rec t_29 hu0 (by decide) wf_20
            refine k_l (r_V C h hl (As := [.int v10_2, .int v29_3]) (rest := []) (s_X2_seen l D G b0 τ f_29 t_29 u0 hu0 v10_2 (iv_w jv29_2 (by decide)) v29_3 (iv_w i5 (by decide)) rq mq gj7) r8 (Cn := RX2) (T := TX2) (N := 11) rfl rfl mk_X2_seen w_744 w_710 w_711 w_712 ⟨Nat.le_of_ble_eq_true rfl, Nat.le_of_ble_eq_true rfl⟩ rfl (Nat.le_of_ble_eq_true rfl) ⟨Nat.le_of_ble_eq_true rfl, Nat.le_of_ble_eq_true rfl⟩ rfl dX2_filledCells_43) h (fun r9 f10 H locs p11 h => ?_)
            obtain ⟨tf10, ogf10⟩ := p11
            have egf10 := Fr.nil2 ogf10
            subst egf10
            refine lv_lconst (v := 0) hx hb dX2_filledCells_46 (by decide) ?_
            refine W.lcmp hx hb dX2_filledCells_47 (i_topc (fun z12 ez12 mz12 iz12 => ?_))
            refine lv_if_eq (tgt := 54) hx hb dX2_filledCells_48 (by decide) (fun c13 => ?_) (fun c13 => ?_)
            · have c14 : z12.toInt = 0 := congrArg Int32.toInt c13
              have i15 : iv z12 0 0 := iv_Q c14 iz12 (iv_k (x := 0) (k := 0) rfl) (by decide)
              refine i_inc hx hb dX2_filledCells_54 hl (k := 3) rfl i5 rfl (lo := (-59)) (hi := 70) (by decide) (by decide) (lv' := fun v => [(3, .int v), (0, .ref u0), (1, .int v29_1), (2, .int v10_2)]) (fun _ => rfl) (fun z17 ls ez17 mz17 iz17 hl => ?_)
              refine lv_goto (tgt := 29) hx hb dX2_filledCells_57 (by decide) ?_
              exact ih29 ls f_29 H locs v29_1 z17 (show 70 - z17.toInt < _ by omega) (lv_cons hl 1 rfl (lv_cons hl 2 rfl (lv_cons hl 3 rfl (lv_cons hl 0 rfl (lv_nil hl))))) h t_29 o_29 iv29_1 jv29_2 (iv_w iz17 (by decide)) k29_u0_GZ k29_u0_3 k29_u0_2 k29_u0_9 k29_u0_10 k29_rq_0 k29_rq_1 k29_rq_2 k29_rq_3 k29_mq_0 k29_mq_1 k29_mq_2 k29_mq_3
            · have c16 : z12.toInt ≠ 0 := fun z_ => c13 (Int32.toInt_inj.mp z_)
              refine i_incA hx hb dX2_filledCells_51 hl (k := 1) rfl (by decide) (lv' := fun v => [(1, .int v), (0, .ref u0), (2, .int v10_2), (3, .int v29_3)]) (fun _ => rfl) (fun z18 ls ez18 iz18 hl => ?_)
              refine i_inc hx hb dX2_filledCells_54 hl (k := 3) rfl i5 rfl (lo := (-59)) (hi := 70) (by decide) (by decide) (lv' := fun v => [(3, .int v), (1, .int z18), (0, .ref u0), (2, .int v10_2)]) (fun _ => rfl) (fun z19 ls ez19 mz19 iz19 hl => ?_)
              refine lv_goto (tgt := 29) hx hb dX2_filledCells_57 (by decide) ?_
              exact ih29 ls f_29 H locs z18 z19 (show 70 - z19.toInt < _ by omega) (lv_cons hl 2 rfl (lv_cons hl 1 rfl (lv_cons hl 3 rfl (lv_cons hl 0 rfl (lv_nil hl))))) h t_29 o_29 iz18 jv29_2 (iv_w iz19 (by decide)) k29_u0_GZ k29_u0_3 k29_u0_2 k29_u0_9 k29_u0_10 k29_rq_0 k29_rq_1 k29_rq_2 k29_rq_3 k29_mq_0 k29_mq_1 k29_mq_2 k29_mq_3
      refine lv_iload_n hx hb dX2_filledCells_10 rfl (lv_at hl 2 rfl) ?_
      refine lv_aload_n hx hb dX2_filledCells_11 rfl (lv_at hl 0 rfl) ?_
      refine t_getfd C h t_10 hu0 (by decide) wf_20 (v := .ref rq) k10_u0_3 fl_X2_25 dX2_filledCells_12 ?_
      refine t_getfd C h t_10 trq (by decide) wf_23 (v := .int rr) k10_rq_2 fl_X2_66 dX2_filledCells_15 ?_
      refine lv_icmp_gt (tgt := 66) hx hb dX2_filledCells_18 (by decide) (fun c20 => ?_) (fun c20 => ?_)
      · have c21 : rr.toInt < v10_2.toInt := Int32.lt_iff_toInt_lt.mp c20
        have i22 : iv v10_2 (-59) 70 := iv_Lr c21 irr iv10_2 (by decide)
        refine lv_iload_n hx hb dX2_filledCells_66 rfl (lv_at hl 1 rfl) ?_
        exact u_iret C h hr hQ (⟨iv10_1, t_10, o_10⟩) (Nat.le_of_ble_eq_true rfl) (Nat.le_of_ble_eq_true rfl) dX2_filledCells_67
      · have c23 : v10_2.toInt ≤ rr.toInt := Int32.le_iff_toInt_le.mp (iv_nlt c20)
        have i24 : iv v10_2 (-60) 69 := iv_El c23 iv10_2 irr (by decide)
        refine lv_aload_n hx hb dX2_filledCells_21 rfl (lv_at hl 0 rfl) ?_
        refine t_getfd C h t_10 hu0 (by decide) wf_20 (v := .ref rq) k10_u0_3 fl_X2_25 dX2_filledCells_22 ?_
        refine t_getfd C h t_10 trq (by decide) wf_23 (v := .int rb) k10_rq_1 fl_X2_63 dX2_filledCells_25 ?_
        refine lv_istore_n (lv' := [(3, .int rb), (0, .ref u0), (1, .int v10_1), (2, .int v10_2)]) hx hb dX2_filledCells_28 rfl hl (by decide) rfl (fun ls hl => ?_)
        exact L29 131 ls f_10 H locs v10_1 rb (show 70 - rb.toInt < _ by omega) (lv_cons hl 1 rfl (lv_cons hl 2 rfl (lv_cons hl 3 rfl (lv_cons hl 0 rfl (lv_nil hl))))) h t_10 o_10 iv10_1 i24 (iv_w irb (by decide)) k10_u0_GZ k10_u0_3 k10_u0_2 k10_u0_9 k10_u0_10 k10_rq_0 k10_rq_1 k10_rq_2 k10_rq_3 k10_mq_0 k10_mq_1 k10_mq_2 k10_mq_3
  refine lv_iconst (v := 0) hx hb dX2_filledCells_0 (by decide) ?_
  refine lv_istore_n (lv' := [(1, .int 0), (0, .ref u0)]) hx hb dX2_filledCells_1 rfl hl (by decide) rfl (fun ls hl => ?_)
  refine lv_aload_n hx hb dX2_filledCells_2 rfl (lv_at hl 1 rfl) ?_
  refine t_getfd C h t hu0 (by decide) wf_20 (v := .ref rq) kg3 fl_X2_25 dX2_filledCells_3 ?_
  refine t_getfd C h t trq (by decide) wf_23 (v := .int rl) krl fl_X2_60 dX2_filledCells_6 ?_
  refine lv_istore_n (lv' := [(2, .int rl), (1, .int 0), (0, .ref u0)]) hx hb dX2_filledCells_9 rfl hl (by decide) rfl (fun ls hl => ?_)
  exact L10 131 ls f s.heap [] 0 rl (show 70 - rl.toInt < _ by omega) (lv_cons hl 2 rfl (lv_cons hl 1 rfl (lv_cons hl 0 rfl (lv_nil hl)))) h t o ⟨by decide, by decide⟩ (iv_w irl (by decide)) hGZ kg3 kg2 ksx ksy krl krb krr krt kml kmb kmr kmt
abbrev rm_s_X2_stepsInside : Room := { frames := 0, cells := 0, slots := 0, locals := 0 }
set_option maxRecDepth 100000 in
set_option maxHeartbeats 4000000 in
theorem s_X2_stepsInside (l : Launch) (D : va_G) (G : Nat → Nat) (b0 : Nat) (τ : Nat → Nat) (f : hM) (t : TI G 9 τ f) (u0 : Int32) (hu0 : iv u0 (-2147483648) 2147483647) (u1 : Int32) (hu1 : iv u1 (-2147483648) 2147483647) : mI l yX2_stepsInside cX2_stepsInside 4 (.int) rm_s_X2_stepsInside D G b0 f [.int u0, .int u1] (fun r f1 => iv r (-2147483648) 2147483647 ∧ TI G 9 τ f1 ∧ Fr [] τ f f1) := by
  refine met2 (own := RX2) (by decide) rfl (Nat.le_of_ble_eq_true rfl) ?_
  intro p e s m args below meth c ls Q hQ C hr hini hl h
  have hl : lv_has ls 4 [(0, .int u0), (1, .int u1)] := hl
  obtain ⟨hx, hb, hml, hown, hts, hE0, hlk⟩ := id C
  have o := Fr.rf [] τ f
  have L4 : ∀ (n4 : Nat) (ls : Array Slot) (f_4 : hM) (H : Heap) (locs : List Loc) (v4_2 : Int32) (v4_3 : Int32), 8 - v4_3.toInt < (n4 : Int) → lv_has ls 4 [(0, .int u0), (1, .int u1), (2, .int v4_2), (3, .int v4_3)] → hw D b0 s.heap f_4 H locs → TI G 9 τ f_4 → Fr [] τ f f_4 → iv v4_2 (-2147483648) 2147483647 → iv v4_3 0 8 → W p l e rm_s_X2_stepsInside s m args below meth c H locs 0 0 Q (F0 m 4 ls []) := by
    intro n4
    induction n4 with
    | zero => intro ls f_4 H locs v4_2 v4_3 hm4 hl h t_4 o_4 iv4_2 iv4_3; exact absurd hm4 (by omega)
    | succ n4 ih4 =>
      intro ls f_4 H locs v4_2 v4_3 hm4 hl h t_4 o_4 iv4_2 iv4_3
      refine lv_iload_n hx hb dX2_stepsInside_4 rfl (lv_at hl 3 rfl) ?_
      refine lv_bipush (v := 8) hx hb dX2_stepsInside_5 (by decide) ?_
      refine lv_icmp_ge (tgt := 42) hx hb dX2_stepsInside_7 (by decide) (fun c1 => ?_) (fun c1 => ?_)
      · have c2 : 8 ≤ v4_3.toInt := Int32.le_iff_toInt_le.mp c1
        have i3 : iv v4_3 8 8 := iv_Er c2 (iv_k (x := 8) (k := 8) rfl) iv4_3 (by decide)
        refine lv_iload_n hx hb dX2_stepsInside_42 rfl (lv_at hl 2 rfl) ?_
        exact u_iret C h hr hQ (⟨iv4_2, t_4, o_4⟩) (Nat.le_of_ble_eq_true rfl) (Nat.le_of_ble_eq_true rfl) dX2_stepsInside_43
      · have c4 : v4_3.toInt < 8 := Int32.lt_iff_toInt_lt.mp (iv_nle c1)
        have i5 : iv v4_3 0 7 := iv_Ll c4 iv4_3 (iv_k (x := 8) (k := 8) rfl) (by decide)
        refine lv_iload_n hx hb dX2_stepsInside_10 rfl (lv_at hl 0 rfl) ?_
        refine st_getN C h (i := 0) (by decide) (by decide) dX2_stepsInside_11 ?_
        refine lv_iload_n hx hb dX2_stepsInside_14 rfl (lv_at hl 3 rfl) ?_
        refine st_ald C h (k := 0) (by decide) st_b0 (iv_in i5 (by decide)) dX2_stepsInside_15 (fun z6 ez6 iz6 => ?_)
        refine lv_iadd hx hb dX2_stepsInside_16 (i_top (iv_any _) (fun z7 ez7 iz7 => ?_))
        refine lv_if_lt (tgt := 36) hx hb dX2_stepsInside_17 (by decide) (fun c8 => ?_) (fun c8 => ?_)
        · have c9 : z7.toInt < 0 := Int32.lt_iff_toInt_lt.mp c8
          have i10 : iv z7 (-2147483648) (-1) := iv_Ll c9 iz7 (iv_k (x := 0) (k := 0) rfl) (by decide)
          refine i_inc hx hb dX2_stepsInside_36 hl (k := 3) rfl i5 rfl (lo := 1) (hi := 8) (by decide) (by decide) (lv' := fun v => [(3, .int v), (0, .int u0), (1, .int u1), (2, .int v4_2)]) (fun _ => rfl) (fun z13 ls ez13 mz13 iz13 hl => ?_)
          refine lv_goto (tgt := 4) hx hb dX2_stepsInside_39 (by decide) ?_
          exact ih4 ls f_4 H locs v4_2 z13 (show 8 - z13.toInt < _ by omega) (lv_cons hl 1 rfl (lv_cons hl 2 rfl (lv_cons hl 3 rfl (lv_cons hl 0 rfl (lv_nil hl))))) h t_4 o_4 iv4_2 (iv_w iz13 (by decide))
        · have c11 : 0 ≤ z7.toInt := Int32.le_iff_toInt_le.mp (iv_nlt c8)
          have i12 : iv z7 0 2147483647 := iv_Er c11 (iv_k (x := 0) (k := 0) rfl) iz7 (by decide)
          refine lv_iload_n hx hb dX2_stepsInside_20 rfl (lv_at hl 1 rfl) ?_
          refine st_getN C h (i := 1) (by decide) (by decide) dX2_stepsInside_21 ?_
          refine lv_iload_n hx hb dX2_stepsInside_24 rfl (lv_at hl 3 rfl) ?_
          refine st_ald C h (k := 1) (by decide) st_b1 (iv_in i5 (by decide)) dX2_stepsInside_25 (fun z14 ez14 iz14 => ?_)
          refine lv_iadd hx hb dX2_stepsInside_26 (i_top (iv_any _) (fun z15 ez15 iz15 => ?_))
          refine lv_if_lt (tgt := 36) hx hb dX2_stepsInside_27 (by decide) (fun c16 => ?_) (fun c16 => ?_)
          · have c17 : z15.toInt < 0 := Int32.lt_iff_toInt_lt.mp c16
            have i18 : iv z15 (-2147483648) (-1) := iv_Ll c17 iz15 (iv_k (x := 0) (k := 0) rfl) (by decide)
            refine i_inc hx hb dX2_stepsInside_36 hl (k := 3) rfl i5 rfl (lo := 1) (hi := 8) (by decide) (by decide) (lv' := fun v => [(3, .int v), (0, .int u0), (1, .int u1), (2, .int v4_2)]) (fun _ => rfl) (fun z21 ls ez21 mz21 iz21 hl => ?_)
            refine lv_goto (tgt := 4) hx hb dX2_stepsInside_39 (by decide) ?_
            exact ih4 ls f_4 H locs v4_2 z21 (show 8 - z21.toInt < _ by omega) (lv_cons hl 1 rfl (lv_cons hl 2 rfl (lv_cons hl 3 rfl (lv_cons hl 0 rfl (lv_nil hl))))) h t_4 o_4 iv4_2 (iv_w iz21 (by decide))
          · have c19 : 0 ≤ z15.toInt := Int32.le_iff_toInt_le.mp (iv_nlt c16)
            have i20 : iv z15 0 2147483647 := iv_Er c19 (iv_k (x := 0) (k := 0) rfl) iz15 (by decide)
            refine lv_iload_n hx hb dX2_stepsInside_30 rfl (lv_at hl 2 rfl) ?_
            refine lv_iconst (v := 1) hx hb dX2_stepsInside_31 (by decide) ?_
            refine lv_iload_n hx hb dX2_stepsInside_32 rfl (lv_at hl 3 rfl) ?_
            refine lv_ishl hx hb dX2_stepsInside_33 (i_top (iv_any _) (fun z22 ez22 iz22 => ?_))
            refine lv_ior hx hb dX2_stepsInside_34 (i_top (iv_any _) (fun z23 ez23 iz23 => ?_))
            refine lv_istore_n (lv' := [(2, .int z23), (0, .int u0), (1, .int u1), (3, .int v4_3)]) hx hb dX2_stepsInside_35 rfl hl (by decide) rfl (fun ls hl => ?_)
            refine i_inc hx hb dX2_stepsInside_36 hl (k := 3) rfl i5 rfl (lo := 1) (hi := 8) (by decide) (by decide) (lv' := fun v => [(3, .int v), (2, .int z23), (0, .int u0), (1, .int u1)]) (fun _ => rfl) (fun z24 ls ez24 mz24 iz24 hl => ?_)
            refine lv_goto (tgt := 4) hx hb dX2_stepsInside_39 (by decide) ?_
            exact ih4 ls f_4 H locs z23 z24 (show 8 - z24.toInt < _ by omega) (lv_cons hl 2 rfl (lv_cons hl 3 rfl (lv_cons hl 1 rfl (lv_cons hl 0 rfl (lv_nil hl))))) h t_4 o_4 iz23 (iv_w iz24 (by decide))
  refine lv_iconst (v := 0) hx hb dX2_stepsInside_0 (by decide) ?_
  refine lv_istore_n (lv' := [(2, .int 0), (0, .int u0), (1, .int u1)]) hx hb dX2_stepsInside_1 rfl hl (by decide) rfl (fun ls hl => ?_)
  refine lv_iconst (v := 0) hx hb dX2_stepsInside_2 (by decide) ?_
  refine lv_istore_n (lv' := [(3, .int 0), (2, .int 0), (0, .int u0), (1, .int u1)]) hx hb dX2_stepsInside_3 rfl hl (by decide) rfl (fun ls hl => ?_)
  exact L4 9 ls f s.heap [] 0 0 (by decide) (lv_cons hl 2 rfl (lv_cons hl 3 rfl (lv_cons hl 1 rfl (lv_cons hl 0 rfl (lv_nil hl))))) h t o ⟨by decide, by decide⟩ ⟨by decide, by decide⟩
abbrev rm_s_X2_staying : Room := { frames := 2, cells := 0, slots := 0, locals := 44 }
set_option maxRecDepth 100000 in
set_option maxHeartbeats 4000000 in
theorem s_X2_staying (l : Launch) (D : va_G) (G : Nat → Nat) (b0 : Nat) (τ : Nat → Nat) (f : hM) (t : TI G 9 τ f) (u0 : Nat) (hu0 : τ u0 = 20) (rq mq : Nat) (hGJ : GJ τ f u0 rq mq) : mI l yX2_staying cX2_staying 4 (.int) rm_s_X2_staying D G b0 f [.ref u0] (fun r f1 => iv r (-2147483648) 2147483647 ∧ TI G 9 τ f1 ∧ Fr [] τ f f1) := by
  refine met2 (own := RX2) (by decide) rfl (Nat.le_of_ble_eq_true rfl) ?_
  intro p e s m args below meth c ls Q hQ C hr hini hl h
  have hl : lv_has ls 4 [(0, .ref u0)] := hl
  obtain ⟨hx, hb, hml, hown, hts, hE0, hlk⟩ := id C
  have o := Fr.rf [] τ f
  obtain ⟨sx, sy, rl, rb, rr, rt, ml, mb, mr, mt, ⟨trq, tmq⟩, ⟨kg3, kg2, ksx, ksy⟩, ⟨krl, krb, krr, krt⟩, ⟨kml, kmb, kmr, kmt⟩, ⟨isx, isy, irl, irb, irr, irt, iml, imb, imr, imt⟩, ⟨gr1, gr2, gr3, gr4⟩, ⟨gr5, gr6, gr7, gr8⟩, hGZ⟩ := hGJ
  have L10 : ∀ (n10 : Nat) (ls : Array Slot) (f_10 : hM) (H : Heap) (locs : List Loc) (v10_1 : Int32) (v10_2 : Int32), 70 - v10_2.toInt < (n10 : Int) → lv_has ls 4 [(0, .ref u0), (1, .int v10_1), (2, .int v10_2)] → hw D b0 s.heap f_10 H locs → TI G 9 τ f_10 → Fr [] τ f f_10 → iv v10_1 (-2147483648) 2147483647 → iv v10_2 (-60) 70 → GZ τ f_10 u0 (inb sx sy rl rb rr rt) → atp f_10 u0 (fd 3 (.ref rq)) → atp f_10 u0 (fd 2 (.ref mq)) → atp f_10 u0 (fd 9 (.int sx)) → atp f_10 u0 (fd 10 (.int sy)) → atp f_10 rq (fd 0 (.int rl)) → atp f_10 rq (fd 1 (.int rb)) → atp f_10 rq (fd 2 (.int rr)) → atp f_10 rq (fd 3 (.int rt)) → atp f_10 mq (fd 0 (.int ml)) → atp f_10 mq (fd 1 (.int mb)) → atp f_10 mq (fd 2 (.int mr)) → atp f_10 mq (fd 3 (.int mt)) → W p l e rm_s_X2_staying s m args below meth c H locs 0 0 Q (F0 m 10 ls []) := by
    intro n10
    induction n10 with
    | zero => intro ls f_10 H locs v10_1 v10_2 hm10 hl h t_10 o_10 iv10_1 iv10_2 k10_u0_GZ k10_u0_3 k10_u0_2 k10_u0_9 k10_u0_10 k10_rq_0 k10_rq_1 k10_rq_2 k10_rq_3 k10_mq_0 k10_mq_1 k10_mq_2 k10_mq_3; exact absurd hm10 (by omega)
    | succ n10 ih10 =>
      intro ls f_10 H locs v10_1 v10_2 hm10 hl h t_10 o_10 iv10_1 iv10_2 k10_u0_GZ k10_u0_3 k10_u0_2 k10_u0_9 k10_u0_10 k10_rq_0 k10_rq_1 k10_rq_2 k10_rq_3 k10_mq_0 k10_mq_1 k10_mq_2 k10_mq_3
      have L29 : ∀ (n29 : Nat) (ls : Array Slot) (f_29 : hM) (H : Heap) (locs : List Loc) (v29_1 : Int32) (v29_3 : Int32), 70 - v29_3.toInt < (n29 : Int) → lv_has ls 4 [(0, .ref u0), (1, .int v29_1), (2, .int v10_2), (3, .int v29_3)] → hw D b0 s.heap f_29 H locs → TI G 9 τ f_29 → Fr [] τ f f_29 → iv v29_1 (-2147483648) 2147483647 → iv v10_2 (-60) 69 → iv v29_3 (-60) 70 → GZ τ f_29 u0 (inb sx sy rl rb rr rt) → atp f_29 u0 (fd 3 (.ref rq)) → atp f_29 u0 (fd 2 (.ref mq)) → atp f_29 u0 (fd 9 (.int sx)) → atp f_29 u0 (fd 10 (.int sy)) → atp f_29 rq (fd 0 (.int rl)) → atp f_29 rq (fd 1 (.int rb)) → atp f_29 rq (fd 2 (.int rr)) → atp f_29 rq (fd 3 (.int rt)) → atp f_29 mq (fd 0 (.int ml)) → atp f_29 mq (fd 1 (.int mb)) → atp f_29 mq (fd 2 (.int mr)) → atp f_29 mq (fd 3 (.int mt)) → W p l e rm_s_X2_staying s m args below meth c H locs 0 0 Q (F0 m 29 ls []) := by
        intro n29
        induction n29 with
        | zero => intro ls f_29 H locs v29_1 v29_3 hm29 hl h t_29 o_29 iv29_1 jv29_2 iv29_3 k29_u0_GZ k29_u0_3 k29_u0_2 k29_u0_9 k29_u0_10 k29_rq_0 k29_rq_1 k29_rq_2 k29_rq_3 k29_mq_0 k29_mq_1 k29_mq_2 k29_mq_3; exact absurd hm29 (by omega)
        | succ n29 ih29 =>
          intro ls f_29 H locs v29_1 v29_3 hm29 hl h t_29 o_29 iv29_1 jv29_2 iv29_3 k29_u0_GZ k29_u0_3 k29_u0_2 k29_u0_9 k29_u0_10 k29_rq_0 k29_rq_1 k29_rq_2 k29_rq_3 k29_mq_0 k29_mq_1 k29_mq_2 k29_mq_3
          refine lv_iload_n hx hb dX2_staying_29 rfl (lv_at hl 3 rfl) ?_
          refine lv_aload_n hx hb dX2_staying_30 rfl (lv_at hl 0 rfl) ?_
          refine t_getfd C h t_29 hu0 (by decide) wf_20 (v := .ref rq) k29_u0_3 fl_X2_25 dX2_staying_31 ?_
          refine t_getfd C h t_29 trq (by decide) wf_23 (v := .int rt) k29_rq_3 fl_X2_69 dX2_staying_34 ?_
          refine lv_icmp_gt (tgt := 65) hx hb dX2_staying_37 (by decide) (fun c1 => ?_) (fun c1 => ?_)
          · have c2 : rt.toInt < v29_3.toInt := Int32.lt_iff_toInt_lt.mp c1
            have i3 : iv v29_3 (-59) 70 := iv_Lr c2 irt iv29_3 (by decide)
            refine i_inc hx hb dX2_staying_65 hl (k := 2) rfl jv29_2 rfl (lo := (-59)) (hi := 70) (by decide) (by decide) (lv' := fun v => [(2, .int v), (0, .ref u0), (1, .int v29_1), (3, .int v29_3)]) (fun _ => rfl) (fun z6 ls ez6 mz6 iz6 hl => ?_)
            refine lv_goto (tgt := 10) hx hb dX2_staying_68 (by decide) ?_
            exact ih10 ls f_29 H locs v29_1 z6 (show 70 - z6.toInt < _ by omega) (lv_cons hl 1 rfl (lv_cons hl 2 rfl (lv_cons hl 0 rfl (lv_nil hl)))) h t_29 o_29 iv29_1 (iv_w iz6 (by decide)) k29_u0_GZ k29_u0_3 k29_u0_2 k29_u0_9 k29_u0_10 k29_rq_0 k29_rq_1 k29_rq_2 k29_rq_3 k29_mq_0 k29_mq_1 k29_mq_2 k29_mq_3
          · have c4 : v29_3.toInt ≤ rt.toInt := Int32.le_iff_toInt_le.mp (iv_nlt c1)
            have i5 : iv v29_3 (-60) 69 := iv_El c4 iv29_3 irt (by decide)
            refine lv_aload_n hx hb dX2_staying_40 rfl (lv_at hl 0 rfl) ?_
            refine lv_iload_n hx hb dX2_staying_41 rfl (lv_at hl 2 rfl) ?_
            refine lv_iload_n hx hb dX2_staying_42 rfl (lv_at hl 3 rfl) ?_
            have gj7 : GJ τ f_29 u0 rq mq := ⟨sx, sy, rl, rb, rr, rt, ml, mb, mr, mt, ⟨trq, tmq⟩, ⟨k29_u0_3, k29_u0_2, k29_u0_9, k29_u0_10⟩, ⟨k29_rq_0, k29_rq_1, k29_rq_2, k29_rq_3⟩, ⟨k29_mq_0, k29_mq_1, k29_mq_2, k29_mq_3⟩, ⟨isx, isy, irl, irb, irr, irt, iml, imb, imr, imt⟩, ⟨by omega, by omega, by omega, by omega⟩, ⟨by omega, by omega, by omega, by omega⟩, k29_u0_GZ⟩
            obtain ⟨_, r8⟩ := t_rec t_29 hu0 (by decide) wf_20
            refine k_l (r_V C h hl (As := [.int v10_2, .int v29_3]) (rest := []) (s_X2_seen l D G b0 τ f_29 t_29 u0 hu0 v10_2 (iv_w jv29_2 (by decide)) v29_3 (iv_w i5 (by decide)) rq mq gj7) r8 (Cn := RX2) (T := TX2) (N := 11) rfl rfl mk_X2_seen w_744 w_710 w_711 w_712 ⟨Nat.le_of_ble_eq_true rfl, Nat.le_of_ble_eq_true rfl⟩ rfl (Nat.le_of_ble_eq_true rfl) ⟨Nat.le_of_ble_eq_true rfl, Nat.le_of_ble_eq_true rfl⟩ rfl dX2_staying_43) h (fun r9 f10 H locs p11 h => ?_)
            obtain ⟨tf10, ogf10⟩ := p11
            have egf10 := Fr.nil2 ogf10
            subst egf10
            refine lv_lconst (v := 0) hx hb dX2_staying_46 (by decide) ?_
            refine W.lcmp hx hb dX2_staying_47 (i_topc (fun z12 ez12 mz12 iz12 => ?_))
            refine lv_if_eq (tgt := 59) hx hb dX2_staying_48 (by decide) (fun c13 => ?_) (fun c13 => ?_)
            · have c14 : z12.toInt = 0 := congrArg Int32.toInt c13
              have i15 : iv z12 0 0 := iv_Q c14 iz12 (iv_k (x := 0) (k := 0) rfl) (by decide)
              refine i_inc hx hb dX2_staying_59 hl (k := 3) rfl i5 rfl (lo := (-59)) (hi := 70) (by decide) (by decide) (lv' := fun v => [(3, .int v), (0, .ref u0), (1, .int v29_1), (2, .int v10_2)]) (fun _ => rfl) (fun z17 ls ez17 mz17 iz17 hl => ?_)
              refine lv_goto (tgt := 29) hx hb dX2_staying_62 (by decide) ?_
              exact ih29 ls f_29 H locs v29_1 z17 (show 70 - z17.toInt < _ by omega) (lv_cons hl 1 rfl (lv_cons hl 2 rfl (lv_cons hl 3 rfl (lv_cons hl 0 rfl (lv_nil hl))))) h t_29 o_29 iv29_1 jv29_2 (iv_w iz17 (by decide)) k29_u0_GZ k29_u0_3 k29_u0_2 k29_u0_9 k29_u0_10 k29_rq_0 k29_rq_1 k29_rq_2 k29_rq_3 k29_mq_0 k29_mq_1 k29_mq_2 k29_mq_3
            · have c16 : z12.toInt ≠ 0 := fun z_ => c13 (Int32.toInt_inj.mp z_)
              refine lv_iload_n hx hb dX2_staying_51 rfl (lv_at hl 1 rfl) ?_
              refine lv_iload_n hx hb dX2_staying_52 rfl (lv_at hl 2 rfl) ?_
              refine lv_iload_n hx hb dX2_staying_53 rfl (lv_at hl 3 rfl) ?_
              refine k_i (r_S C h hl (As := [.int v10_2, .int v29_3]) (rest := [.int v29_1]) (s_X2_stepsInside l D G b0 τ f_29 t_29 v10_2 (iv_w jv29_2 (by decide)) v29_3 (iv_w i5 (by decide))) mk_X2_stepsInside w_1003 w_1004 w_1005 ⟨Nat.le_of_ble_eq_true rfl, Nat.le_of_ble_eq_true rfl⟩ rfl (Nat.le_of_ble_eq_true rfl) ⟨Nat.le_of_ble_eq_true rfl, Nat.le_of_ble_eq_true rfl⟩ rfl dX2_staying_54) h (fun r18 f19 H locs p20 h => ?_)
              obtain ⟨ir18, tf19, ogf19⟩ := p20
              have egf19 := Fr.nil2 ogf19
              subst egf19
              refine lv_ior hx hb dX2_staying_57 (i_top (iv_any _) (fun z21 ez21 iz21 => ?_))
              refine lv_istore_n (lv' := [(1, .int z21), (0, .ref u0), (2, .int v10_2), (3, .int v29_3)]) hx hb dX2_staying_58 rfl hl (by decide) rfl (fun ls hl => ?_)
              refine i_inc hx hb dX2_staying_59 hl (k := 3) rfl i5 rfl (lo := (-59)) (hi := 70) (by decide) (by decide) (lv' := fun v => [(3, .int v), (1, .int z21), (0, .ref u0), (2, .int v10_2)]) (fun _ => rfl) (fun z22 ls ez22 mz22 iz22 hl => ?_)
              refine lv_goto (tgt := 29) hx hb dX2_staying_62 (by decide) ?_
              exact ih29 ls f_29 H locs z21 z22 (show 70 - z22.toInt < _ by omega) (lv_cons hl 2 rfl (lv_cons hl 1 rfl (lv_cons hl 3 rfl (lv_cons hl 0 rfl (lv_nil hl))))) h t_29 o_29 iz21 jv29_2 (iv_w iz22 (by decide)) k29_u0_GZ k29_u0_3 k29_u0_2 k29_u0_9 k29_u0_10 k29_rq_0 k29_rq_1 k29_rq_2 k29_rq_3 k29_mq_0 k29_mq_1 k29_mq_2 k29_mq_3
      refine lv_iload_n hx hb dX2_staying_10 rfl (lv_at hl 2 rfl) ?_
      refine lv_aload_n hx hb dX2_staying_11 rfl (lv_at hl 0 rfl) ?_
      refine t_getfd C h t_10 hu0 (by decide) wf_20 (v := .ref rq) k10_u0_3 fl_X2_25 dX2_staying_12 ?_
      refine t_getfd C h t_10 trq (by decide) wf_23 (v := .int rr) k10_rq_2 fl_X2_66 dX2_staying_15 ?_
      refine lv_icmp_gt (tgt := 71) hx hb dX2_staying_18 (by decide) (fun c23 => ?_) (fun c23 => ?_)
      · have c24 : rr.toInt < v10_2.toInt := Int32.lt_iff_toInt_lt.mp c23
        have i25 : iv v10_2 (-59) 70 := iv_Lr c24 irr iv10_2 (by decide)
        refine lv_iload_n hx hb dX2_staying_71 rfl (lv_at hl 1 rfl) ?_
        exact u_iret C h hr hQ (⟨iv10_1, t_10, o_10⟩) (Nat.le_of_ble_eq_true rfl) (Nat.le_of_ble_eq_true rfl) dX2_staying_72
      · have c26 : v10_2.toInt ≤ rr.toInt := Int32.le_iff_toInt_le.mp (iv_nlt c23)
        have i27 : iv v10_2 (-60) 69 := iv_El c26 iv10_2 irr (by decide)
        refine lv_aload_n hx hb dX2_staying_21 rfl (lv_at hl 0 rfl) ?_
        refine t_getfd C h t_10 hu0 (by decide) wf_20 (v := .ref rq) k10_u0_3 fl_X2_25 dX2_staying_22 ?_
        refine t_getfd C h t_10 trq (by decide) wf_23 (v := .int rb) k10_rq_1 fl_X2_63 dX2_staying_25 ?_
        refine lv_istore_n (lv' := [(3, .int rb), (0, .ref u0), (1, .int v10_1), (2, .int v10_2)]) hx hb dX2_staying_28 rfl hl (by decide) rfl (fun ls hl => ?_)
        exact L29 131 ls f_10 H locs v10_1 rb (show 70 - rb.toInt < _ by omega) (lv_cons hl 1 rfl (lv_cons hl 2 rfl (lv_cons hl 3 rfl (lv_cons hl 0 rfl (lv_nil hl))))) h t_10 o_10 iv10_1 i27 (iv_w irb (by decide)) k10_u0_GZ k10_u0_3 k10_u0_2 k10_u0_9 k10_u0_10 k10_rq_0 k10_rq_1 k10_rq_2 k10_rq_3 k10_mq_0 k10_mq_1 k10_mq_2 k10_mq_3
  refine lv_iconst (v := 0) hx hb dX2_staying_0 (by decide) ?_
  refine lv_istore_n (lv' := [(1, .int 0), (0, .ref u0)]) hx hb dX2_staying_1 rfl hl (by decide) rfl (fun ls hl => ?_)
  refine lv_aload_n hx hb dX2_staying_2 rfl (lv_at hl 1 rfl) ?_
  refine t_getfd C h t hu0 (by decide) wf_20 (v := .ref rq) kg3 fl_X2_25 dX2_staying_3 ?_
  refine t_getfd C h t trq (by decide) wf_23 (v := .int rl) krl fl_X2_60 dX2_staying_6 ?_
  refine lv_istore_n (lv' := [(2, .int rl), (1, .int 0), (0, .ref u0)]) hx hb dX2_staying_9 rfl hl (by decide) rfl (fun ls hl => ?_)
  exact L10 131 ls f s.heap [] 0 rl (show 70 - rl.toInt < _ by omega) (lv_cons hl 2 rfl (lv_cons hl 1 rfl (lv_cons hl 0 rfl (lv_nil hl)))) h t o ⟨by decide, by decide⟩ (iv_w irl (by decide)) hGZ kg3 kg2 ksx ksy krl krb krr krt kml kmb kmr kmt
abbrev rm_s_X2_copyQuarter : Room := { frames := 2, cells := 0, slots := 0, locals := 44 }
set_option maxRecDepth 100000 in
set_option maxHeartbeats 4000000 in
theorem s_X2_copyQuarter (l : Launch) (D : va_G) (G : Nat → Nat) (b0 : Nat) (τ : Nat → Nat) (f : hM) (t : TI G 9 τ f) (u0 : Nat) (hu0 : τ u0 = 20) (u1 : Nat) (hu1 : τ u1 = 51) (rq mq : Nat) (hGJ : GJ τ f u0 rq mq) : mV l yX2_copyQuarter cX2_copyQuarter 4 rm_s_X2_copyQuarter D G b0 f [.ref u0, .ref u1] (fun f1 => TI G 9 τ f1 ∧ Fr [51] τ f f1) := by
  refine met2 (own := RX2) (by decide) rfl (Nat.le_of_ble_eq_true rfl) ?_
  intro p e s m args below meth c ls Q hQ C hr hini hl h
  have hl : lv_has ls 4 [(0, .ref u0), (1, .ref u1)] := hl
  obtain ⟨hx, hb, hml, hown, hts, hE0, hlk⟩ := id C
  have o := Fr.rf [51] τ f
  obtain ⟨sx, sy, rl, rb, rr, rt, ml, mb, mr, mt, ⟨trq, tmq⟩, ⟨kg3, kg2, ksx, ksy⟩, ⟨krl, krb, krr, krt⟩, ⟨kml, kmb, kmr, kmt⟩, ⟨isx, isy, irl, irb, irr, irt, iml, imb, imr, imt⟩, ⟨gr1, gr2, gr3, gr4⟩, ⟨gr5, gr6, gr7, gr8⟩, hGZ⟩ := hGJ
  have L2 : ∀ (n2 : Nat) (ls : Array Slot) (f_2 : hM) (H : Heap) (locs : List Loc) (v2_2 : Int32), 70 - v2_2.toInt < (n2 : Int) → lv_has ls 4 [(0, .ref u0), (1, .ref u1), (2, .int v2_2)] → hw D b0 s.heap f_2 H locs → TI G 9 τ f_2 → Fr [51] τ f f_2 → iv v2_2 0 70 → GZ τ f_2 u0 (inb sx sy rl rb rr rt) → atp f_2 u0 (fd 3 (.ref rq)) → atp f_2 u0 (fd 2 (.ref mq)) → atp f_2 u0 (fd 9 (.int sx)) → atp f_2 u0 (fd 10 (.int sy)) → atp f_2 rq (fd 0 (.int rl)) → atp f_2 rq (fd 1 (.int rb)) → atp f_2 rq (fd 2 (.int rr)) → atp f_2 rq (fd 3 (.int rt)) → atp f_2 mq (fd 0 (.int ml)) → atp f_2 mq (fd 1 (.int mb)) → atp f_2 mq (fd 2 (.int mr)) → atp f_2 mq (fd 3 (.int mt)) → W p l e rm_s_X2_copyQuarter s m args below meth c H locs 0 0 Q (F0 m 2 ls []) := by
    intro n2
    induction n2 with
    | zero => intro ls f_2 H locs v2_2 hm2 hl h t_2 o_2 iv2_2 k2_u0_GZ k2_u0_3 k2_u0_2 k2_u0_9 k2_u0_10 k2_rq_0 k2_rq_1 k2_rq_2 k2_rq_3 k2_mq_0 k2_mq_1 k2_mq_2 k2_mq_3; exact absurd hm2 (by omega)
    | succ n2 ih2 =>
      intro ls f_2 H locs v2_2 hm2 hl h t_2 o_2 iv2_2 k2_u0_GZ k2_u0_3 k2_u0_2 k2_u0_9 k2_u0_10 k2_rq_0 k2_rq_1 k2_rq_2 k2_rq_3 k2_mq_0 k2_mq_1 k2_mq_2 k2_mq_3
      have L10 : ∀ (n10 : Nat) (ls : Array Slot) (f_10 : hM) (H : Heap) (locs : List Loc) (v10_3 : Int32), 70 - v10_3.toInt < (n10 : Int) → lv_has ls 4 [(0, .ref u0), (1, .ref u1), (2, .int v2_2), (3, .int v10_3)] → hw D b0 s.heap f_10 H locs → TI G 9 τ f_10 → Fr [51] τ f f_10 → iv v2_2 0 69 → iv v10_3 0 70 → GZ τ f_10 u0 (inb sx sy rl rb rr rt) → atp f_10 u0 (fd 3 (.ref rq)) → atp f_10 u0 (fd 2 (.ref mq)) → atp f_10 u0 (fd 9 (.int sx)) → atp f_10 u0 (fd 10 (.int sy)) → atp f_10 rq (fd 0 (.int rl)) → atp f_10 rq (fd 1 (.int rb)) → atp f_10 rq (fd 2 (.int rr)) → atp f_10 rq (fd 3 (.int rt)) → atp f_10 mq (fd 0 (.int ml)) → atp f_10 mq (fd 1 (.int mb)) → atp f_10 mq (fd 2 (.int mr)) → atp f_10 mq (fd 3 (.int mt)) → W p l e rm_s_X2_copyQuarter s m args below meth c H locs 0 0 Q (F0 m 10 ls []) := by
        intro n10
        induction n10 with
        | zero => intro ls f_10 H locs v10_3 hm10 hl h t_10 o_10 jv10_2 iv10_3 k10_u0_GZ k10_u0_3 k10_u0_2 k10_u0_9 k10_u0_10 k10_rq_0 k10_rq_1 k10_rq_2 k10_rq_3 k10_mq_0 k10_mq_1 k10_mq_2 k10_mq_3; exact absurd hm10 (by omega)
        | succ n10 ih10 =>
          intro ls f_10 H locs v10_3 hm10 hl h t_10 o_10 jv10_2 iv10_3 k10_u0_GZ k10_u0_3 k10_u0_2 k10_u0_9 k10_u0_10 k10_rq_0 k10_rq_1 k10_rq_2 k10_rq_3 k10_mq_0 k10_mq_1 k10_mq_2 k10_mq_3
          refine lv_iload_n hx hb dX2_copyQuarter_10 rfl (lv_at hl 3 rfl) ?_
          refine lv_bipush (v := 70) hx hb dX2_copyQuarter_11 (by decide) ?_
          refine lv_icmp_ge (tgt := 47) hx hb dX2_copyQuarter_13 (by decide) (fun c1 => ?_) (fun c1 => ?_)
          · have c2 : 70 ≤ v10_3.toInt := Int32.le_iff_toInt_le.mp c1
            have i3 : iv v10_3 70 70 := iv_Er c2 (iv_k (x := 70) (k := 70) rfl) iv10_3 (by decide)
            refine i_inc hx hb dX2_copyQuarter_47 hl (k := 2) rfl jv10_2 rfl (lo := 1) (hi := 70) (by decide) (by decide) (lv' := fun v => [(2, .int v), (0, .ref u0), (1, .ref u1), (3, .int v10_3)]) (fun _ => rfl) (fun z6 ls ez6 mz6 iz6 hl => ?_)
            refine lv_goto (tgt := 2) hx hb dX2_copyQuarter_50 (by decide) ?_
            exact ih2 ls f_10 H locs z6 (show 70 - z6.toInt < _ by omega) (lv_cons hl 1 rfl (lv_cons hl 2 rfl (lv_cons hl 0 rfl (lv_nil hl)))) h t_10 o_10 (iv_w iz6 (by decide)) k10_u0_GZ k10_u0_3 k10_u0_2 k10_u0_9 k10_u0_10 k10_rq_0 k10_rq_1 k10_rq_2 k10_rq_3 k10_mq_0 k10_mq_1 k10_mq_2 k10_mq_3
          · have c4 : v10_3.toInt < 70 := Int32.lt_iff_toInt_lt.mp (iv_nle c1)
            have i5 : iv v10_3 0 69 := iv_Ll c4 iv10_3 (iv_k (x := 70) (k := 70) rfl) (by decide)
            refine lv_iload_n hx hb dX2_copyQuarter_16 rfl (lv_at hl 2 rfl) ?_
            refine lv_bipush (v := 70) hx hb dX2_copyQuarter_17 (by decide) ?_
            refine i_mulc hx hb dX2_copyQuarter_19 jv10_2 (k := 70) rfl (lo := 0) (hi := 4830) (by decide) (fun z7 ez7 mz7 iz7 => ?_)
            refine lv_iload_n hx hb dX2_copyQuarter_20 rfl (lv_at hl 3 rfl) ?_
            refine i_add hx hb dX2_copyQuarter_21 iz7 i5 (lo := 0) (hi := 4899) (by decide) (fun z8 ez8 mz8 iz8 => ?_)
            refine lv_aload_n hx hb dX2_copyQuarter_22 rfl (lv_at hl 1 rfl) ?_
            refine t_alen C h t_10 hu1 (by decide) (n := 4900) (v := 4900) (fun e_ h_ => Or.inr (wf_51 e_ h_)) rfl dX2_copyQuarter_23 ?_
            refine lv_icmp_ge (tgt := 47) hx hb dX2_copyQuarter_24 (by decide) (fun c9 => ?_) (fun c9 => ?_)
            · have c10 : 4900 ≤ z8.toInt := Int32.le_iff_toInt_le.mp c9
              exact (iv_ce_ c10 (iv_k (x := 4900) (k := 4900) rfl) iz8 (by decide)).elim
            · have c11 : z8.toInt < 4900 := Int32.lt_iff_toInt_lt.mp (iv_nle c9)
              refine lv_aload_n hx hb dX2_copyQuarter_27 rfl (lv_at hl 1 rfl) ?_
              refine lv_iload_n hx hb dX2_copyQuarter_28 rfl (lv_at hl 2 rfl) ?_
              refine lv_bipush (v := 70) hx hb dX2_copyQuarter_29 (by decide) ?_
              refine i_mulc hx hb dX2_copyQuarter_31 jv10_2 (k := 70) rfl (lo := 0) (hi := 4830) (by decide) (fun z12 ez12 mz12 iz12 => ?_)
              refine lv_iload_n hx hb dX2_copyQuarter_32 rfl (lv_at hl 3 rfl) ?_
              refine i_add hx hb dX2_copyQuarter_33 iz12 i5 (lo := 0) (hi := 4899) (by decide) (fun z13 ez13 mz13 iz13 => ?_)
              refine lv_aload_n hx hb dX2_copyQuarter_34 rfl (lv_at hl 0 rfl) ?_
              refine lv_iload_n hx hb dX2_copyQuarter_35 rfl (lv_at hl 2 rfl) ?_
              refine lv_iload_n hx hb dX2_copyQuarter_36 rfl (lv_at hl 3 rfl) ?_
              have gj14 : GJ τ f_10 u0 rq mq := ⟨sx, sy, rl, rb, rr, rt, ml, mb, mr, mt, ⟨trq, tmq⟩, ⟨k10_u0_3, k10_u0_2, k10_u0_9, k10_u0_10⟩, ⟨k10_rq_0, k10_rq_1, k10_rq_2, k10_rq_3⟩, ⟨k10_mq_0, k10_mq_1, k10_mq_2, k10_mq_3⟩, ⟨isx, isy, irl, irb, irr, irt, iml, imb, imr, imt⟩, ⟨by omega, by omega, by omega, by omega⟩, ⟨by omega, by omega, by omega, by omega⟩, k10_u0_GZ⟩
              obtain ⟨_, r15⟩ := t_rec t_10 hu0 (by decide) wf_20
              refine k_l (r_V C h hl (As := [.int v2_2, .int v10_3]) (rest := [.int z13, .ref u1]) (s_X2_seen l D G b0 τ f_10 t_10 u0 hu0 v2_2 (iv_w jv10_2 (by decide)) v10_3 (iv_w i5 (by decide)) rq mq gj14) r15 (Cn := RX2) (T := TX2) (N := 11) rfl rfl mk_X2_seen w_744 w_710 w_711 w_712 ⟨Nat.le_of_ble_eq_true rfl, Nat.le_of_ble_eq_true rfl⟩ rfl (Nat.le_of_ble_eq_true rfl) ⟨Nat.le_of_ble_eq_true rfl, Nat.le_of_ble_eq_true rfl⟩ rfl dX2_copyQuarter_37) h (fun r16 f17 H locs p18 h => ?_)
              obtain ⟨tf17, ogf17⟩ := p18
              have egf17 := Fr.nil2 ogf17
              subst egf17
              refine t_last C h t_10 o_10 hu1 (by decide) (by decide) wf_51 fw_51 (iv_in iz13 (by decide)) dX2_copyQuarter_40 (fun f19 H locs h tf19 of19 hq => ?_)
              have k20 := GZ.tg k10_u0_GZ hq hu0 (by decide)
              have k21 := atp.tg k10_u0_3 hq hu0 (by decide)
              have k22 := atp.tg k10_u0_2 hq hu0 (by decide)
              have k23 := atp.tg k10_u0_9 hq hu0 (by decide)
              have k24 := atp.tg k10_u0_10 hq hu0 (by decide)
              have k25 := atp.tg k10_rq_0 hq trq (by decide)
              have k26 := atp.tg k10_rq_1 hq trq (by decide)
              have k27 := atp.tg k10_rq_2 hq trq (by decide)
              have k28 := atp.tg k10_rq_3 hq trq (by decide)
              have k29 := atp.tg k10_mq_0 hq tmq (by decide)
              have k30 := atp.tg k10_mq_1 hq tmq (by decide)
              have k31 := atp.tg k10_mq_2 hq tmq (by decide)
              have k32 := atp.tg k10_mq_3 hq tmq (by decide)
              refine i_inc hx hb dX2_copyQuarter_41 hl (k := 3) rfl i5 rfl (lo := 1) (hi := 70) (by decide) (by decide) (lv' := fun v => [(3, .int v), (0, .ref u0), (1, .ref u1), (2, .int v2_2)]) (fun _ => rfl) (fun z33 ls ez33 mz33 iz33 hl => ?_)
              refine lv_goto (tgt := 10) hx hb dX2_copyQuarter_44 (by decide) ?_
              exact ih10 ls f19 H locs z33 (show 70 - z33.toInt < _ by omega) (lv_cons hl 1 rfl (lv_cons hl 2 rfl (lv_cons hl 3 rfl (lv_cons hl 0 rfl (lv_nil hl))))) h tf19 of19 jv10_2 (iv_w iz33 (by decide)) k20 k21 k22 k23 k24 k25 k26 k27 k28 k29 k30 k31 k32
      refine lv_iload_n hx hb dX2_copyQuarter_2 rfl (lv_at hl 2 rfl) ?_
      refine lv_bipush (v := 70) hx hb dX2_copyQuarter_3 (by decide) ?_
      refine lv_icmp_ge (tgt := 53) hx hb dX2_copyQuarter_5 (by decide) (fun c34 => ?_) (fun c34 => ?_)
      · have c35 : 70 ≤ v2_2.toInt := Int32.le_iff_toInt_le.mp c34
        have i36 : iv v2_2 70 70 := iv_Er c35 (iv_k (x := 70) (k := 70) rfl) iv2_2 (by decide)
        exact u_vret C h hr hQ (⟨t_2, o_2⟩) (Nat.le_of_ble_eq_true rfl) (Nat.le_of_ble_eq_true rfl) dX2_copyQuarter_53
      · have c37 : v2_2.toInt < 70 := Int32.lt_iff_toInt_lt.mp (iv_nle c34)
        have i38 : iv v2_2 0 69 := iv_Ll c37 iv2_2 (iv_k (x := 70) (k := 70) rfl) (by decide)
        refine lv_iconst (v := 0) hx hb dX2_copyQuarter_8 (by decide) ?_
        refine lv_istore_n (lv' := [(3, .int 0), (0, .ref u0), (1, .ref u1), (2, .int v2_2)]) hx hb dX2_copyQuarter_9 rfl hl (by decide) rfl (fun ls hl => ?_)
        exact L10 71 ls f_2 H locs 0 (by decide) (lv_cons hl 1 rfl (lv_cons hl 2 rfl (lv_cons hl 3 rfl (lv_cons hl 0 rfl (lv_nil hl))))) h t_2 o_2 i38 ⟨by decide, by decide⟩ k2_u0_GZ k2_u0_3 k2_u0_2 k2_u0_9 k2_u0_10 k2_rq_0 k2_rq_1 k2_rq_2 k2_rq_3 k2_mq_0 k2_mq_1 k2_mq_2 k2_mq_3
  refine lv_iconst (v := 0) hx hb dX2_copyQuarter_0 (by decide) ?_
  refine lv_istore_n (lv' := [(2, .int 0), (0, .ref u0), (1, .ref u1)]) hx hb dX2_copyQuarter_1 rfl hl (by decide) rfl (fun ls hl => ?_)
  exact L2 71 ls f s.heap [] 0 (by decide) (lv_cons hl 1 rfl (lv_cons hl 2 rfl (lv_cons hl 0 rfl (lv_nil hl)))) h t o ⟨by decide, by decide⟩ hGZ kg3 kg2 ksx ksy krl krb krr krt kml kmb kmr kmt
abbrev rm_s_X2_matched : Room := { frames := 2, cells := 0, slots := 0, locals := 44 }
set_option maxRecDepth 100000 in
set_option maxHeartbeats 4000000 in
theorem s_X2_matched (l : Launch) (D : va_G) (G : Nat → Nat) (b0 : Nat) (τ : Nat → Nat) (f : hM) (t : TI G 9 τ f) (u0 : Nat) (hu0 : τ u0 = 20) (u1 : Nat) (hu1 : τ u1 = 51) (rq mq : Nat) (hGJ : GJ τ f u0 rq mq) : mI l yX2_matched cX2_matched 6 (.int) rm_s_X2_matched D G b0 f [.ref u0, .ref u1] (fun r f1 => iv r (-2147483648) 2147483647 ∧ TI G 9 τ f1 ∧ Fr [] τ f f1) := by
  refine met2 (own := RX2) (by decide) rfl (Nat.le_of_ble_eq_true rfl) ?_
  intro p e s m args below meth c ls Q hQ C hr hini hl h
  have hl : lv_has ls 6 [(0, .ref u0), (1, .ref u1)] := hl
  obtain ⟨hx, hb, hml, hown, hts, hE0, hlk⟩ := id C
  have o := Fr.rf [] τ f
  obtain ⟨sx, sy, rl, rb, rr, rt, ml, mb, mr, mt, ⟨trq, tmq⟩, ⟨kg3, kg2, ksx, ksy⟩, ⟨krl, krb, krr, krt⟩, ⟨kml, kmb, kmr, kmt⟩, ⟨isx, isy, irl, irb, irr, irt, iml, imb, imr, imt⟩, ⟨gr1, gr2, gr3, gr4⟩, ⟨gr5, gr6, gr7, gr8⟩, hGZ⟩ := hGJ
  have L5 : ∀ (n5 : Nat) (ls : Array Slot) (f_5 : hM) (H : Heap) (locs : List Loc) (v5_2 : Int64) (v5_4 : Int32), 70 - v5_4.toInt < (n5 : Int) → lv_has ls 6 [(0, .ref u0), (1, .ref u1), (2, .long v5_2), (4, .int v5_4)] → hw D b0 s.heap f_5 H locs → TI G 9 τ f_5 → Fr [] τ f f_5 → iv v5_4 0 70 → GZ τ f_5 u0 (inb sx sy rl rb rr rt) → atp f_5 u0 (fd 3 (.ref rq)) → atp f_5 u0 (fd 2 (.ref mq)) → atp f_5 u0 (fd 9 (.int sx)) → atp f_5 u0 (fd 10 (.int sy)) → atp f_5 rq (fd 0 (.int rl)) → atp f_5 rq (fd 1 (.int rb)) → atp f_5 rq (fd 2 (.int rr)) → atp f_5 rq (fd 3 (.int rt)) → atp f_5 mq (fd 0 (.int ml)) → atp f_5 mq (fd 1 (.int mb)) → atp f_5 mq (fd 2 (.int mr)) → atp f_5 mq (fd 3 (.int mt)) → W p l e rm_s_X2_matched s m args below meth c H locs 0 0 Q (F0 m 5 ls []) := by
    intro n5
    induction n5 with
    | zero => intro ls f_5 H locs v5_2 v5_4 hm5 hl h t_5 o_5 iv5_4 k5_u0_GZ k5_u0_3 k5_u0_2 k5_u0_9 k5_u0_10 k5_rq_0 k5_rq_1 k5_rq_2 k5_rq_3 k5_mq_0 k5_mq_1 k5_mq_2 k5_mq_3; exact absurd hm5 (by omega)
    | succ n5 ih5 =>
      intro ls f_5 H locs v5_2 v5_4 hm5 hl h t_5 o_5 iv5_4 k5_u0_GZ k5_u0_3 k5_u0_2 k5_u0_9 k5_u0_10 k5_rq_0 k5_rq_1 k5_rq_2 k5_rq_3 k5_mq_0 k5_mq_1 k5_mq_2 k5_mq_3
      have L15 : ∀ (n15 : Nat) (ls : Array Slot) (f_15 : hM) (H : Heap) (locs : List Loc) (v15_2 : Int64) (v15_5 : Int32), 70 - v15_5.toInt < (n15 : Int) → lv_has ls 6 [(0, .ref u0), (1, .ref u1), (2, .long v15_2), (4, .int v5_4), (5, .int v15_5)] → hw D b0 s.heap f_15 H locs → TI G 9 τ f_15 → Fr [] τ f f_15 → iv v5_4 0 69 → iv v15_5 0 70 → GZ τ f_15 u0 (inb sx sy rl rb rr rt) → atp f_15 u0 (fd 3 (.ref rq)) → atp f_15 u0 (fd 2 (.ref mq)) → atp f_15 u0 (fd 9 (.int sx)) → atp f_15 u0 (fd 10 (.int sy)) → atp f_15 rq (fd 0 (.int rl)) → atp f_15 rq (fd 1 (.int rb)) → atp f_15 rq (fd 2 (.int rr)) → atp f_15 rq (fd 3 (.int rt)) → atp f_15 mq (fd 0 (.int ml)) → atp f_15 mq (fd 1 (.int mb)) → atp f_15 mq (fd 2 (.int mr)) → atp f_15 mq (fd 3 (.int mt)) → W p l e rm_s_X2_matched s m args below meth c H locs 0 0 Q (F0 m 15 ls []) := by
        intro n15
        induction n15 with
        | zero => intro ls f_15 H locs v15_2 v15_5 hm15 hl h t_15 o_15 jv15_4 iv15_5 k15_u0_GZ k15_u0_3 k15_u0_2 k15_u0_9 k15_u0_10 k15_rq_0 k15_rq_1 k15_rq_2 k15_rq_3 k15_mq_0 k15_mq_1 k15_mq_2 k15_mq_3; exact absurd hm15 (by omega)
        | succ n15 ih15 =>
          intro ls f_15 H locs v15_2 v15_5 hm15 hl h t_15 o_15 jv15_4 iv15_5 k15_u0_GZ k15_u0_3 k15_u0_2 k15_u0_9 k15_u0_10 k15_rq_0 k15_rq_1 k15_rq_2 k15_rq_3 k15_mq_0 k15_mq_1 k15_mq_2 k15_mq_3
          refine lv_iload hx hb dX2_matched_15 (lv_at hl 4 rfl) ?_
          refine lv_bipush (v := 70) hx hb dX2_matched_17 (by decide) ?_
          refine lv_icmp_ge (tgt := 66) hx hb dX2_matched_19 (by decide) (fun c1 => ?_) (fun c1 => ?_)
          · have c2 : 70 ≤ v15_5.toInt := Int32.le_iff_toInt_le.mp c1
            have i3 : iv v15_5 70 70 := iv_Er c2 (iv_k (x := 70) (k := 70) rfl) iv15_5 (by decide)
            refine i_inc hx hb dX2_matched_66 hl (k := 3) rfl jv15_4 rfl (lo := 1) (hi := 70) (by decide) (by decide) (lv' := fun v => [(4, .int v), (0, .ref u0), (1, .ref u1), (2, .long v15_2), (5, .int v15_5)]) (fun _ => rfl) (fun z6 ls ez6 mz6 iz6 hl => ?_)
            refine lv_goto (tgt := 5) hx hb dX2_matched_69 (by decide) ?_
            exact ih5 ls f_15 H locs v15_2 z6 (show 70 - z6.toInt < _ by omega) (lv_cons hl 1 rfl (lv_cons hl 2 rfl (lv_cons hl 3 rfl (lv_cons hl 0 rfl (lv_nil hl))))) h t_15 o_15 (iv_w iz6 (by decide)) k15_u0_GZ k15_u0_3 k15_u0_2 k15_u0_9 k15_u0_10 k15_rq_0 k15_rq_1 k15_rq_2 k15_rq_3 k15_mq_0 k15_mq_1 k15_mq_2 k15_mq_3
          · have c4 : v15_5.toInt < 70 := Int32.lt_iff_toInt_lt.mp (iv_nle c1)
            have i5 : iv v15_5 0 69 := iv_Ll c4 iv15_5 (iv_k (x := 70) (k := 70) rfl) (by decide)
            refine lv_iload hx hb dX2_matched_22 (lv_at hl 3 rfl) ?_
            refine lv_bipush (v := 70) hx hb dX2_matched_24 (by decide) ?_
            refine i_mulc hx hb dX2_matched_26 jv15_4 (k := 70) rfl (lo := 0) (hi := 4830) (by decide) (fun z7 ez7 mz7 iz7 => ?_)
            refine lv_iload hx hb dX2_matched_27 (lv_at hl 4 rfl) ?_
            refine i_add hx hb dX2_matched_29 iz7 i5 (lo := 0) (hi := 4899) (by decide) (fun z8 ez8 mz8 iz8 => ?_)
            refine lv_aload_n hx hb dX2_matched_30 rfl (lv_at hl 1 rfl) ?_
            refine t_alen C h t_15 hu1 (by decide) (n := 4900) (v := 4900) (fun e_ h_ => Or.inr (wf_51 e_ h_)) rfl dX2_matched_31 ?_
            refine lv_icmp_ge (tgt := 66) hx hb dX2_matched_32 (by decide) (fun c9 => ?_) (fun c9 => ?_)
            · have c10 : 4900 ≤ z8.toInt := Int32.le_iff_toInt_le.mp c9
              exact (iv_ce_ c10 (iv_k (x := 4900) (k := 4900) rfl) iz8 (by decide)).elim
            · have c11 : z8.toInt < 4900 := Int32.lt_iff_toInt_lt.mp (iv_nle c9)
              refine lv_lload_n hx hb dX2_matched_35 rfl (lv_at hl 2 rfl) ?_
              refine lv_aload_n hx hb dX2_matched_36 rfl (lv_at hl 1 rfl) ?_
              refine lv_iload hx hb dX2_matched_37 (lv_at hl 3 rfl) ?_
              refine lv_bipush (v := 70) hx hb dX2_matched_39 (by decide) ?_
              refine i_mulc hx hb dX2_matched_41 jv15_4 (k := 70) rfl (lo := 0) (hi := 4830) (by decide) (fun z12 ez12 mz12 iz12 => ?_)
              refine lv_iload hx hb dX2_matched_42 (lv_at hl 4 rfl) ?_
              refine i_add hx hb dX2_matched_44 iz12 i5 (lo := 0) (hi := 4899) (by decide) (fun z13 ez13 mz13 iz13 => ?_)
              refine t_lald C h t_15 hu1 (by decide) wf_51 (iv_in iz13 (by decide)) dX2_matched_45 (fun w14 => ?_)
              refine lv_aload_n hx hb dX2_matched_46 rfl (lv_at hl 0 rfl) ?_
              refine lv_iload hx hb dX2_matched_47 (lv_at hl 3 rfl) ?_
              refine lv_iload hx hb dX2_matched_49 (lv_at hl 4 rfl) ?_
              have gj15 : GJ τ f_15 u0 rq mq := ⟨sx, sy, rl, rb, rr, rt, ml, mb, mr, mt, ⟨trq, tmq⟩, ⟨k15_u0_3, k15_u0_2, k15_u0_9, k15_u0_10⟩, ⟨k15_rq_0, k15_rq_1, k15_rq_2, k15_rq_3⟩, ⟨k15_mq_0, k15_mq_1, k15_mq_2, k15_mq_3⟩, ⟨isx, isy, irl, irb, irr, irt, iml, imb, imr, imt⟩, ⟨by omega, by omega, by omega, by omega⟩, ⟨by omega, by omega, by omega, by omega⟩, k15_u0_GZ⟩
              obtain ⟨_, r16⟩ := t_rec t_15 hu0 (by decide) wf_20
              refine k_l (r_V C h hl (As := [.int v5_4, .int v15_5]) (rest := [.long w14, .long v15_2]) (s_X2_seen l D G b0 τ f_15 t_15 u0 hu0 v5_4 (iv_w jv15_4 (by decide)) v15_5 (iv_w i5 (by decide)) rq mq gj15) r16 (Cn := RX2) (T := TX2) (N := 11) rfl rfl mk_X2_seen w_744 w_710 w_711 w_712 ⟨Nat.le_of_ble_eq_true rfl, Nat.le_of_ble_eq_true rfl⟩ rfl (Nat.le_of_ble_eq_true rfl) ⟨Nat.le_of_ble_eq_true rfl, Nat.le_of_ble_eq_true rfl⟩ rfl dX2_matched_51) h (fun r17 f18 H locs p19 h => ?_)
              obtain ⟨tf18, ogf18⟩ := p19
              have egf18 := Fr.nil2 ogf18
              subst egf18
              refine k_i (r_SN C h hl (host := "QuarterWalks") (As := [.long w14, .long r17]) (rest := [.long v15_2]) (s_X10_times l D G b0 τ f_15 t_15 w14 r17) mk_X10_times (by decide) w_807 w_808 ⟨Nat.le_of_ble_eq_true rfl, Nat.le_of_ble_eq_true rfl⟩ rfl (Nat.le_of_ble_eq_true rfl) ⟨Nat.le_of_ble_eq_true rfl, Nat.le_of_ble_eq_true rfl⟩ rfl dX2_matched_54) h (fun r20 f21 H locs p22 h => ?_)
              obtain ⟨ir20, tf21, ogf21⟩ := p22
              have egf21 := Fr.nil2 ogf21
              subst egf21
              refine lv_i2l hx hb dX2_matched_57 rfl (i_topL ir20 (fun w23 ew23 mw23 iw23 => ?_))
              refine lv_ladd hx hb dX2_matched_58 (lv_topl (fun w24 ew24 => ?_))
              refine lv_lstore_n (lv' := [(2, .long w24), (0, .ref u0), (1, .ref u1), (4, .int v5_4), (5, .int v15_5)]) hx hb dX2_matched_59 rfl hl (by decide) rfl (fun ls hl => ?_)
              refine i_inc hx hb dX2_matched_60 hl (k := 4) rfl i5 rfl (lo := 1) (hi := 70) (by decide) (by decide) (lv' := fun v => [(5, .int v), (2, .long w24), (0, .ref u0), (1, .ref u1), (4, .int v5_4)]) (fun _ => rfl) (fun z25 ls ez25 mz25 iz25 hl => ?_)
              refine lv_goto (tgt := 15) hx hb dX2_matched_63 (by decide) ?_
              exact ih15 ls f_15 H locs w24 z25 (show 70 - z25.toInt < _ by omega) (lv_cons hl 2 rfl (lv_cons hl 3 rfl (lv_cons hl 1 rfl (lv_cons hl 4 rfl (lv_cons hl 0 rfl (lv_nil hl)))))) h t_15 o_15 jv15_4 (iv_w iz25 (by decide)) k15_u0_GZ k15_u0_3 k15_u0_2 k15_u0_9 k15_u0_10 k15_rq_0 k15_rq_1 k15_rq_2 k15_rq_3 k15_mq_0 k15_mq_1 k15_mq_2 k15_mq_3
      refine lv_iload hx hb dX2_matched_5 (lv_at hl 3 rfl) ?_
      refine lv_bipush (v := 70) hx hb dX2_matched_7 (by decide) ?_
      refine lv_icmp_ge (tgt := 72) hx hb dX2_matched_9 (by decide) (fun c26 => ?_) (fun c26 => ?_)
      · have c27 : 70 ≤ v5_4.toInt := Int32.le_iff_toInt_le.mp c26
        have i28 : iv v5_4 70 70 := iv_Er c27 (iv_k (x := 70) (k := 70) rfl) iv5_4 (by decide)
        refine lv_lload_n hx hb dX2_matched_72 rfl (lv_at hl 2 rfl) ?_
        refine k_i (r_SN C h hl (host := "QuarterWalks") (As := [.long v5_2]) (rest := []) (s_X10_residue l D G b0 τ f_5 t_5 v5_2) mk_X10_residue (by decide) w_741 w_742 ⟨Nat.le_of_ble_eq_true rfl, Nat.le_of_ble_eq_true rfl⟩ rfl (Nat.le_of_ble_eq_true rfl) ⟨Nat.le_of_ble_eq_true rfl, Nat.le_of_ble_eq_true rfl⟩ rfl dX2_matched_73) h (fun r31 f32 H locs p33 h => ?_)
        obtain ⟨ir31, tf32, ogf32⟩ := p33
        have egf32 := Fr.nil2 ogf32
        subst egf32
        exact u_iret C h hr hQ (⟨ir31, t_5, o_5⟩) (Nat.le_of_ble_eq_true rfl) (Nat.le_of_ble_eq_true rfl) dX2_matched_76
      · have c29 : v5_4.toInt < 70 := Int32.lt_iff_toInt_lt.mp (iv_nle c26)
        have i30 : iv v5_4 0 69 := iv_Ll c29 iv5_4 (iv_k (x := 70) (k := 70) rfl) (by decide)
        refine lv_iconst (v := 0) hx hb dX2_matched_12 (by decide) ?_
        refine lv_istore (lv' := [(5, .int 0), (0, .ref u0), (1, .ref u1), (2, .long v5_2), (4, .int v5_4)]) hx hb dX2_matched_13 hl (by decide) rfl (fun ls hl => ?_)
        exact L15 71 ls f_5 H locs v5_2 0 (by decide) (lv_cons hl 1 rfl (lv_cons hl 2 rfl (lv_cons hl 3 rfl (lv_cons hl 4 rfl (lv_cons hl 0 rfl (lv_nil hl)))))) h t_5 o_5 i30 ⟨by decide, by decide⟩ k5_u0_GZ k5_u0_3 k5_u0_2 k5_u0_9 k5_u0_10 k5_rq_0 k5_rq_1 k5_rq_2 k5_rq_3 k5_mq_0 k5_mq_1 k5_mq_2 k5_mq_3
  refine lv_lconst (v := 0) hx hb dX2_matched_0 (by decide) ?_
  refine lv_lstore_n (lv' := [(2, .long 0), (0, .ref u0), (1, .ref u1)]) hx hb dX2_matched_1 rfl hl (by decide) rfl (fun ls hl => ?_)
  refine lv_iconst (v := 0) hx hb dX2_matched_2 (by decide) ?_
  refine lv_istore (lv' := [(4, .int 0), (2, .long 0), (0, .ref u0), (1, .ref u1)]) hx hb dX2_matched_3 hl (by decide) rfl (fun ls hl => ?_)
  exact L5 71 ls f s.heap [] 0 0 (by decide) (lv_cons hl 2 rfl (lv_cons hl 3 rfl (lv_cons hl 1 rfl (lv_cons hl 0 rfl (lv_nil hl))))) h t o ⟨by decide, by decide⟩ hGZ kg3 kg2 ksx ksy krl krb krr krt kml kmb kmr kmt
