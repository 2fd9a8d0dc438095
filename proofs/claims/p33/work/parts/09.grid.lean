theorem dX2_cell_0 : decode cX2_cell 0 = .ok (.iload_n 1, 1) := by decide +kernel
theorem dX2_cell_1 : decode cX2_cell 1 = .ok (.aload_n 0, 1) := by decide +kernel
theorem dX2_cell_2 : decode cX2_cell 2 = .ok (.getfield 55, 3) := by decide +kernel
theorem w_247 : Cond.lays "QuarterWalks$Grid" "QuarterWalks$Grid" "now" "[J" ∈ wAll := wI1 152 (by decide +kernel) (by decide +kernel)
theorem w_249 : Cond.lays "QuarterWalks$Grid" "QuarterWalks$Grid" "next" "[J" ∈ wAll := wI1 154 (by decide +kernel) (by decide +kernel)
theorem w_251 : Cond.laysFinal "QuarterWalks$Grid" "QuarterWalks$Grid" "room" "LQuarterWalks$Box;" ∈ wAll := wI1 156 (by decide +kernel) (by decide +kernel)
theorem w_253 : Cond.laysFinal "QuarterWalks$Grid" "QuarterWalks$Grid" "reach" "LQuarterWalks$Box;" ∈ wAll := wI1 158 (by decide +kernel) (by decide +kernel)
theorem w_255 : Cond.laysFinal "QuarterWalks$Grid" "QuarterWalks$Grid" "shifts" "[I" ∈ wAll := wI1 160 (by decide +kernel) (by decide +kernel)
theorem w_257 : Cond.laysFinal "QuarterWalks$Grid" "QuarterWalks$Grid" "worths" "[J" ∈ wAll := wI1 162 (by decide +kernel) (by decide +kernel)
theorem w_259 : Cond.lays "QuarterWalks$Grid" "QuarterWalks$Grid" "used" "I" ∈ wAll := wI1 164 (by decide +kernel) (by decide +kernel)
theorem w_261 : Cond.lays "QuarterWalks$Grid" "QuarterWalks$Grid" "bits" "I" ∈ wAll := wI1 166 (by decide +kernel) (by decide +kernel)
theorem w_263 : Cond.lays "QuarterWalks$Grid" "QuarterWalks$Grid" "mode" "I" ∈ wAll := wI1 168 (by decide +kernel) (by decide +kernel)
theorem w_265 : Cond.lays "QuarterWalks$Grid" "QuarterWalks$Grid" "startX" "I" ∈ wAll := wI1 170 (by decide +kernel) (by decide +kernel)
theorem w_267 : Cond.lays "QuarterWalks$Grid" "QuarterWalks$Grid" "startY" "I" ∈ wAll := wI1 172 (by decide +kernel) (by decide +kernel)
theorem inA_X2 : ∀ w ∈ u_ws RX2 TX2 11, w ∈ wAll := List.forall_mem_cons.mpr ⟨w_247, List.forall_mem_cons.mpr ⟨w_249, List.forall_mem_cons.mpr ⟨w_251, List.forall_mem_cons.mpr ⟨w_253, List.forall_mem_cons.mpr ⟨w_255, List.forall_mem_cons.mpr ⟨w_257, List.forall_mem_cons.mpr ⟨w_259, List.forall_mem_cons.mpr ⟨w_261, List.forall_mem_cons.mpr ⟨w_263, List.forall_mem_cons.mpr ⟨w_265, List.forall_mem_cons.mpr ⟨w_267, fun _ h => absurd h List.not_mem_nil⟩⟩⟩⟩⟩⟩⟩⟩⟩⟩⟩
theorem w_245 : Cond.fieldLink "QuarterWalks$Grid" 55 "QuarterWalks$Grid" "startX" "I" ∈ wAll := wI1 150 (by decide +kernel) (by decide +kernel)
theorem fl_X2_55 : fl RX2 55 3 9 := ⟨RX2, TX2, 11, rfl, inA_X2, by decide, w_245⟩
theorem dX2_cell_5 : decode cX2_cell 5 = .ok (.isub, 1) := by decide +kernel
theorem dX2_cell_6 : decode cX2_cell 6 = .ok (.bipush 61, 2) := by decide +kernel
theorem dX2_cell_8 : decode cX2_cell 8 = .ok (.iadd, 1) := by decide +kernel
theorem dX2_cell_9 : decode cX2_cell 9 = .ok (.bipush 123, 2) := by decide +kernel
theorem dX2_cell_11 : decode cX2_cell 11 = .ok (.imul, 1) := by decide +kernel
theorem dX2_cell_12 : decode cX2_cell 12 = .ok (.iload_n 2, 1) := by decide +kernel
theorem dX2_cell_13 : decode cX2_cell 13 = .ok (.iadd, 1) := by decide +kernel
theorem dX2_cell_14 : decode cX2_cell 14 = .ok (.aload_n 0, 1) := by decide +kernel
theorem dX2_cell_15 : decode cX2_cell 15 = .ok (.getfield 59, 3) := by decide +kernel
theorem w_246 : Cond.fieldLink "QuarterWalks$Grid" 59 "QuarterWalks$Grid" "startY" "I" ∈ wAll := wI1 151 (by decide +kernel) (by decide +kernel)
theorem fl_X2_59 : fl RX2 59 3 10 := ⟨RX2, TX2, 11, rfl, inA_X2, by decide, w_246⟩
theorem dX2_cell_18 : decode cX2_cell 18 = .ok (.isub, 1) := by decide +kernel
theorem dX2_cell_19 : decode cX2_cell 19 = .ok (.bipush 61, 2) := by decide +kernel
theorem dX2_cell_21 : decode cX2_cell 21 = .ok (.iadd, 1) := by decide +kernel
theorem dX2_cell_22 : decode cX2_cell 22 = .ok (.ireturn, 1) := by decide +kernel
theorem dX2_wipe_0 : decode cX2_wipe 0 = .ok (.aload_n 0, 1) := by decide +kernel
theorem dX2_wipe_1 : decode cX2_wipe 1 = .ok (.getfield 25, 3) := by decide +kernel
theorem w_239 : Cond.fieldLink "QuarterWalks$Grid" 25 "QuarterWalks$Grid" "reach" "LQuarterWalks$Box;" ∈ wAll := wI1 144 (by decide +kernel) (by decide +kernel)
theorem fl_X2_25 : fl RX2 25 3 3 := ⟨RX2, TX2, 11, rfl, inA_X2, by decide, w_239⟩
theorem dX2_wipe_4 : decode cX2_wipe 4 = .ok (.getfield 60, 3) := by decide +kernel
theorem w_219 : Cond.fieldLink "QuarterWalks$Grid" 60 "QuarterWalks$Box" "left" "I" ∈ wAll := wI1 124 (by decide +kernel) (by decide +kernel)
theorem fl_X2_60 : fl RX2 60 2 0 := ⟨RX1, TX1, 4, rfl, inA_X1, by decide, w_219⟩
theorem dX2_wipe_7 : decode cX2_wipe 7 = .ok (.istore_n 1, 1) := by decide +kernel
theorem dX2_wipe_8 : decode cX2_wipe 8 = .ok (.iload_n 1, 1) := by decide +kernel
theorem dX2_wipe_9 : decode cX2_wipe 9 = .ok (.aload_n 0, 1) := by decide +kernel
theorem dX2_wipe_10 : decode cX2_wipe 10 = .ok (.getfield 25, 3) := by decide +kernel
theorem dX2_wipe_13 : decode cX2_wipe 13 = .ok (.getfield 66, 3) := by decide +kernel
theorem w_223 : Cond.fieldLink "QuarterWalks$Grid" 66 "QuarterWalks$Box" "right" "I" ∈ wAll := wI1 128 (by decide +kernel) (by decide +kernel)
theorem fl_X2_66 : fl RX2 66 2 2 := ⟨RX1, TX1, 4, rfl, inA_X1, by decide, w_223⟩
theorem dX2_wipe_16 : decode cX2_wipe 16 = .ok (.if_icmp .gt 60, 3) := by decide +kernel
theorem dX2_wipe_19 : decode cX2_wipe 19 = .ok (.aload_n 0, 1) := by decide +kernel
theorem dX2_wipe_20 : decode cX2_wipe 20 = .ok (.iload_n 1, 1) := by decide +kernel
theorem dX2_wipe_21 : decode cX2_wipe 21 = .ok (.aload_n 0, 1) := by decide +kernel
theorem dX2_wipe_22 : decode cX2_wipe 22 = .ok (.getfield 25, 3) := by decide +kernel
theorem dX2_wipe_25 : decode cX2_wipe 25 = .ok (.getfield 69, 3) := by decide +kernel
theorem w_225 : Cond.fieldLink "QuarterWalks$Grid" 69 "QuarterWalks$Box" "top" "I" ∈ wAll := wI1 130 (by decide +kernel) (by decide +kernel)
theorem fl_X2_69 : fl RX2 69 2 3 := ⟨RX1, TX1, 4, rfl, inA_X1, by decide, w_225⟩
theorem dX2_wipe_28 : decode cX2_wipe 28 = .ok (.invokevirtual 76, 3) := by decide +kernel
theorem w_671 : Cond.methodLink "QuarterWalks$Grid" 76 yX2_cell ∈ wAll := wI3 96 (by decide +kernel) (by decide +kernel)
theorem w_12 : Cond.selects yX2_cell.cls yX2_cell yX2_cell ∈ wAll := wIn 12 (by decide +kernel) (by decide +kernel)
theorem w_100 : Cond.initialized "QuarterWalks$Grid" ∈ wAll := wI1 5 (by decide +kernel) (by decide +kernel)
theorem mk_X2_cell : mk yX2_cell 2 := ⟨by decide +kernel, w_100⟩
theorem w_673 : Cond.instanceMethod yX2_cell ∈ wAll := wI3 98 (by decide +kernel) (by decide +kernel)
theorem w_674 : Cond.code yX2_cell cX2_cell 3 (some .int) ∈ wAll := wI3 99 (by decide +kernel) (by decide +kernel)
theorem dX2_wipe_31 : decode cX2_wipe 31 = .ok (.istore_n 2, 1) := by decide +kernel
theorem dX2_wipe_32 : decode cX2_wipe 32 = .ok (.aload_n 0, 1) := by decide +kernel
theorem dX2_wipe_33 : decode cX2_wipe 33 = .ok (.iload_n 1, 1) := by decide +kernel
theorem dX2_wipe_34 : decode cX2_wipe 34 = .ok (.aload_n 0, 1) := by decide +kernel
theorem dX2_wipe_35 : decode cX2_wipe 35 = .ok (.getfield 25, 3) := by decide +kernel
theorem dX2_wipe_38 : decode cX2_wipe 38 = .ok (.getfield 63, 3) := by decide +kernel
theorem w_221 : Cond.fieldLink "QuarterWalks$Grid" 63 "QuarterWalks$Box" "bottom" "I" ∈ wAll := wI1 126 (by decide +kernel) (by decide +kernel)
theorem fl_X2_63 : fl RX2 63 2 1 := ⟨RX1, TX1, 4, rfl, inA_X1, by decide, w_221⟩
theorem dX2_wipe_41 : decode cX2_wipe 41 = .ok (.invokevirtual 76, 3) := by decide +kernel
theorem dX2_wipe_44 : decode cX2_wipe 44 = .ok (.istore_n 3, 1) := by decide +kernel
theorem dX2_wipe_45 : decode cX2_wipe 45 = .ok (.iload_n 3, 1) := by decide +kernel
theorem dX2_wipe_46 : decode cX2_wipe 46 = .ok (.iload_n 2, 1) := by decide +kernel
theorem dX2_wipe_47 : decode cX2_wipe 47 = .ok (.if_icmp .gt 23, 3) := by decide +kernel
theorem dX2_wipe_70 : decode cX2_wipe 70 = .ok (.iinc 1 1, 3) := by decide +kernel
theorem dX2_wipe_73 : decode cX2_wipe 73 = .ok (.goto (-65), 3) := by decide +kernel
theorem dX2_wipe_50 : decode cX2_wipe 50 = .ok (.aload_n 0, 1) := by decide +kernel
theorem dX2_wipe_51 : decode cX2_wipe 51 = .ok (.getfield 11, 3) := by decide +kernel
theorem w_236 : Cond.fieldLink "QuarterWalks$Grid" 11 "QuarterWalks$Grid" "now" "[J" ∈ wAll := wI1 141 (by decide +kernel) (by decide +kernel)
theorem fl_X2_11 : fl RX2 11 3 0 := ⟨RX2, TX2, 11, rfl, inA_X2, by decide, w_236⟩
theorem dX2_wipe_54 : decode cX2_wipe 54 = .ok (.iload_n 3, 1) := by decide +kernel
theorem dX2_wipe_55 : decode cX2_wipe 55 = .ok (.lconst 0, 1) := by decide +kernel
theorem dX2_wipe_56 : decode cX2_wipe 56 = .ok (.lastore, 1) := by decide +kernel
theorem dX2_wipe_57 : decode cX2_wipe 57 = .ok (.aload_n 0, 1) := by decide +kernel
theorem dX2_wipe_58 : decode cX2_wipe 58 = .ok (.getfield 15, 3) := by decide +kernel
theorem w_237 : Cond.fieldLink "QuarterWalks$Grid" 15 "QuarterWalks$Grid" "next" "[J" ∈ wAll := wI1 142 (by decide +kernel) (by decide +kernel)
theorem fl_X2_15 : fl RX2 15 3 1 := ⟨RX2, TX2, 11, rfl, inA_X2, by decide, w_237⟩
theorem dX2_wipe_61 : decode cX2_wipe 61 = .ok (.iload_n 3, 1) := by decide +kernel
theorem dX2_wipe_62 : decode cX2_wipe 62 = .ok (.lconst 0, 1) := by decide +kernel
theorem dX2_wipe_63 : decode cX2_wipe 63 = .ok (.lastore, 1) := by decide +kernel
theorem dX2_wipe_64 : decode cX2_wipe 64 = .ok (.iinc 3 1, 3) := by decide +kernel
theorem dX2_wipe_67 : decode cX2_wipe 67 = .ok (.goto (-22), 3) := by decide +kernel
theorem dX2_wipe_76 : decode cX2_wipe 76 = .ok (.return_, 1) := by decide +kernel
theorem dX2_takeSteps_0 : decode cX2_takeSteps 0 = .ok (.aload_n 0, 1) := by decide +kernel
theorem dX2_takeSteps_1 : decode cX2_takeSteps 1 = .ok (.iconst 0, 1) := by decide +kernel
theorem dX2_takeSteps_2 : decode cX2_takeSteps 2 = .ok (.putfield 85, 3) := by decide +kernel
theorem w_242 : Cond.fieldLink "QuarterWalks$Grid" 85 "QuarterWalks$Grid" "used" "I" ∈ wAll := wI1 147 (by decide +kernel) (by decide +kernel)
theorem flw_X2_85 : flw RX2 85 3 6 (.int) := ⟨RX2, TX2, 11, tyX2, rfl, inA_X2, by decide, w_242, tyX2_ok, nmX2, by decide +kernel, Or.inl rfl⟩
theorem dX2_takeSteps_5 : decode cX2_takeSteps 5 = .ok (.aload_n 0, 1) := by decide +kernel
theorem dX2_takeSteps_6 : decode cX2_takeSteps 6 = .ok (.aload_n 1, 1) := by decide +kernel
theorem dX2_takeSteps_7 : decode cX2_takeSteps 7 = .ok (.invokevirtual 88, 3) := by decide +kernel
theorem w_679 : Cond.methodLink "QuarterWalks$Grid" 88 yX6_bits ∈ wAll := wI3 104 (by decide +kernel) (by decide +kernel)
theorem w_681 : Cond.selects yX6_bits.cls yX6_bits yX6_bits ∈ wAll := wI3 106 (by decide +kernel) (by decide +kernel)
theorem w_115 : Cond.initialized "QuarterWalks$StepSet" ∈ wAll := wI1 20 (by decide +kernel) (by decide +kernel)
theorem mk_X6_bits : mk yX6_bits 0 := ⟨by decide +kernel, w_115⟩
theorem w_680 : Cond.instanceMethod yX6_bits ∈ wAll := wI3 105 (by decide +kernel) (by decide +kernel)
theorem w_682 : Cond.code yX6_bits cX6_bits 3 (some .int) ∈ wAll := wI3 107 (by decide +kernel) (by decide +kernel)
theorem dX2_takeSteps_10 : decode cX2_takeSteps 10 = .ok (.putfield 92, 3) := by decide +kernel
theorem w_243 : Cond.fieldLink "QuarterWalks$Grid" 92 "QuarterWalks$Grid" "bits" "I" ∈ wAll := wI1 148 (by decide +kernel) (by decide +kernel)
theorem flw_X2_92 : flw RX2 92 3 7 (.int) := ⟨RX2, TX2, 11, tyX2, rfl, inA_X2, by decide, w_243, tyX2_ok, nmX2, by decide +kernel, Or.inl rfl⟩
theorem dX2_takeSteps_13 : decode cX2_takeSteps 13 = .ok (.iconst 0, 1) := by decide +kernel
theorem dX2_takeSteps_14 : decode cX2_takeSteps 14 = .ok (.istore_n 2, 1) := by decide +kernel
theorem dX2_takeSteps_15 : decode cX2_takeSteps 15 = .ok (.iload_n 2, 1) := by decide +kernel
theorem dX2_takeSteps_16 : decode cX2_takeSteps 16 = .ok (.bipush 8, 2) := by decide +kernel
theorem dX2_takeSteps_18 : decode cX2_takeSteps 18 = .ok (.if_icmp .ge 86, 3) := by decide +kernel
theorem dX2_takeSteps_21 : decode cX2_takeSteps 21 = .ok (.aload_n 1, 1) := by decide +kernel
theorem dX2_takeSteps_22 : decode cX2_takeSteps 22 = .ok (.getfield 94, 3) := by decide +kernel
theorem w_556 : Cond.fieldLink "QuarterWalks$Grid" 94 "QuarterWalks$StepSet" "weights" "[I" ∈ wAll := wI2 221 (by decide +kernel) (by decide +kernel)
theorem fl_X2_94 : fl RX2 94 7 0 := ⟨RX6, TX6, 4, rfl, inA_X6, by decide, w_556⟩
theorem dX2_takeSteps_25 : decode cX2_takeSteps 25 = .ok (.iload_n 2, 1) := by decide +kernel
theorem dX2_takeSteps_26 : decode cX2_takeSteps 26 = .ok (.iaload, 1) := by decide +kernel
theorem dX2_takeSteps_27 : decode cX2_takeSteps 27 = .ok (.ifCond .eq 71, 3) := by decide +kernel
theorem dX2_takeSteps_98 : decode cX2_takeSteps 98 = .ok (.iinc 2 1, 3) := by decide +kernel
theorem dX2_takeSteps_101 : decode cX2_takeSteps 101 = .ok (.goto (-86), 3) := by decide +kernel
theorem dX2_takeSteps_30 : decode cX2_takeSteps 30 = .ok (.aload_n 0, 1) := by decide +kernel
theorem dX2_takeSteps_31 : decode cX2_takeSteps 31 = .ok (.getfield 28, 3) := by decide +kernel
theorem w_240 : Cond.fieldLink "QuarterWalks$Grid" 28 "QuarterWalks$Grid" "shifts" "[I" ∈ wAll := wI1 145 (by decide +kernel) (by decide +kernel)
theorem fl_X2_28 : fl RX2 28 3 4 := ⟨RX2, TX2, 11, rfl, inA_X2, by decide, w_240⟩
theorem dX2_takeSteps_34 : decode cX2_takeSteps 34 = .ok (.aload_n 0, 1) := by decide +kernel
theorem dX2_takeSteps_35 : decode cX2_takeSteps 35 = .ok (.getfield 85, 3) := by decide +kernel
theorem fl_X2_85 : fl RX2 85 3 6 := ⟨RX2, TX2, 11, rfl, inA_X2, by decide, w_242⟩
theorem dX2_takeSteps_38 : decode cX2_takeSteps 38 = .ok (.getstatic 97, 3) := by decide +kernel
theorem dX2_takeSteps_41 : decode cX2_takeSteps 41 = .ok (.iload_n 2, 1) := by decide +kernel
theorem dX2_takeSteps_42 : decode cX2_takeSteps 42 = .ok (.iaload, 1) := by decide +kernel
theorem dX2_takeSteps_43 : decode cX2_takeSteps 43 = .ok (.bipush 123, 2) := by decide +kernel
theorem dX2_takeSteps_45 : decode cX2_takeSteps 45 = .ok (.imul, 1) := by decide +kernel
theorem dX2_takeSteps_46 : decode cX2_takeSteps 46 = .ok (.getstatic 100, 3) := by decide +kernel
theorem dX2_takeSteps_49 : decode cX2_takeSteps 49 = .ok (.iload_n 2, 1) := by decide +kernel
theorem dX2_takeSteps_50 : decode cX2_takeSteps 50 = .ok (.iaload, 1) := by decide +kernel
theorem dX2_takeSteps_51 : decode cX2_takeSteps 51 = .ok (.iadd, 1) := by decide +kernel
theorem dX2_takeSteps_52 : decode cX2_takeSteps 52 = .ok (.iastore, 1) := by decide +kernel
theorem dX2_takeSteps_53 : decode cX2_takeSteps 53 = .ok (.aload_n 0, 1) := by decide +kernel
theorem dX2_takeSteps_54 : decode cX2_takeSteps 54 = .ok (.getfield 32, 3) := by decide +kernel
theorem w_241 : Cond.fieldLink "QuarterWalks$Grid" 32 "QuarterWalks$Grid" "worths" "[J" ∈ wAll := wI1 146 (by decide +kernel) (by decide +kernel)
theorem fl_X2_32 : fl RX2 32 3 5 := ⟨RX2, TX2, 11, rfl, inA_X2, by decide, w_241⟩
theorem dX2_takeSteps_57 : decode cX2_takeSteps 57 = .ok (.aload_n 0, 1) := by decide +kernel
theorem dX2_takeSteps_58 : decode cX2_takeSteps 58 = .ok (.getfield 85, 3) := by decide +kernel
theorem dX2_takeSteps_61 : decode cX2_takeSteps 61 = .ok (.aload_n 0, 1) := by decide +kernel
theorem dX2_takeSteps_62 : decode cX2_takeSteps 62 = .ok (.getfield 46, 3) := by decide +kernel
theorem w_244 : Cond.fieldLink "QuarterWalks$Grid" 46 "QuarterWalks$Grid" "mode" "I" ∈ wAll := wI1 149 (by decide +kernel) (by decide +kernel)
theorem fl_X2_46 : fl RX2 46 3 8 := ⟨RX2, TX2, 11, rfl, inA_X2, by decide, w_244⟩
theorem dX2_takeSteps_65 : decode cX2_takeSteps 65 = .ok (.ifCond .eq 11, 3) := by decide +kernel
theorem dX2_takeSteps_76 : decode cX2_takeSteps 76 = .ok (.aload_n 1, 1) := by decide +kernel
theorem dX2_takeSteps_77 : decode cX2_takeSteps 77 = .ok (.getfield 94, 3) := by decide +kernel
theorem dX2_takeSteps_80 : decode cX2_takeSteps 80 = .ok (.iload_n 2, 1) := by decide +kernel
theorem dX2_takeSteps_81 : decode cX2_takeSteps 81 = .ok (.iaload, 1) := by decide +kernel
theorem dX2_takeSteps_82 : decode cX2_takeSteps 82 = .ok (.i2l, 1) := by decide +kernel
theorem dX2_takeSteps_83 : decode cX2_takeSteps 83 = .ok (.goto 4, 3) := by decide +kernel
theorem dX2_takeSteps_87 : decode cX2_takeSteps 87 = .ok (.lastore, 1) := by decide +kernel
theorem dX2_takeSteps_88 : decode cX2_takeSteps 88 = .ok (.aload_n 0, 1) := by decide +kernel
theorem dX2_takeSteps_89 : decode cX2_takeSteps 89 = .ok (.dup, 1) := by decide +kernel
theorem dX2_takeSteps_90 : decode cX2_takeSteps 90 = .ok (.getfield 85, 3) := by decide +kernel
theorem dX2_takeSteps_93 : decode cX2_takeSteps 93 = .ok (.iconst 1, 1) := by decide +kernel
theorem dX2_takeSteps_94 : decode cX2_takeSteps 94 = .ok (.iadd, 1) := by decide +kernel
theorem dX2_takeSteps_95 : decode cX2_takeSteps 95 = .ok (.putfield 85, 3) := by decide +kernel
theorem dX2_takeSteps_68 : decode cX2_takeSteps 68 = .ok (.aload_n 0, 1) := by decide +kernel
theorem dX2_takeSteps_69 : decode cX2_takeSteps 69 = .ok (.getfield 46, 3) := by decide +kernel
theorem dX2_takeSteps_72 : decode cX2_takeSteps 72 = .ok (.iconst 1, 1) := by decide +kernel
theorem dX2_takeSteps_73 : decode cX2_takeSteps 73 = .ok (.if_icmp .ne 13, 3) := by decide +kernel
theorem dX2_takeSteps_86 : decode cX2_takeSteps 86 = .ok (.lconst 1, 1) := by decide +kernel
theorem dX2_takeSteps_104 : decode cX2_takeSteps 104 = .ok (.return_, 1) := by decide +kernel
theorem dX2_open_0 : decode cX2_open 0 = .ok (.aload_n 0, 1) := by decide +kernel
theorem dX2_open_1 : decode cX2_open 1 = .ok (.invokevirtual 43, 3) := by decide +kernel
theorem w_667 : Cond.methodLink "QuarterWalks$Grid" 43 yX2_wipe ∈ wAll := wI3 92 (by decide +kernel) (by decide +kernel)
theorem w_11 : Cond.selects yX2_wipe.cls yX2_wipe yX2_wipe ∈ wAll := wIn 11 (by decide +kernel) (by decide +kernel)
theorem mk_X2_wipe : mk yX2_wipe 0 := ⟨by decide +kernel, w_100⟩
theorem w_669 : Cond.instanceMethod yX2_wipe ∈ wAll := wI3 94 (by decide +kernel) (by decide +kernel)
theorem w_670 : Cond.code yX2_wipe cX2_wipe 4 none ∈ wAll := wI3 95 (by decide +kernel) (by decide +kernel)
theorem dX2_open_4 : decode cX2_open 4 = .ok (.aload_n 0, 1) := by decide +kernel
theorem dX2_open_5 : decode cX2_open 5 = .ok (.iload_n 2, 1) := by decide +kernel
theorem dX2_open_6 : decode cX2_open 6 = .ok (.putfield 46, 3) := by decide +kernel
theorem flw_X2_46 : flw RX2 46 3 8 (.int) := ⟨RX2, TX2, 11, tyX2, rfl, inA_X2, by decide, w_244, tyX2_ok, nmX2, by decide +kernel, Or.inl rfl⟩
theorem dX2_open_9 : decode cX2_open 9 = .ok (.aload_n 0, 1) := by decide +kernel
theorem dX2_open_10 : decode cX2_open 10 = .ok (.aload_n 1, 1) := by decide +kernel
theorem dX2_open_11 : decode cX2_open 11 = .ok (.getfield 50, 3) := by decide +kernel
theorem w_560 : Cond.fieldLink "QuarterWalks$Grid" 50 "QuarterWalks$StepSet" "startX" "I" ∈ wAll := wI2 225 (by decide +kernel) (by decide +kernel)
theorem fl_X2_50 : fl RX2 50 7 1 := ⟨RX6, TX6, 4, rfl, inA_X6, by decide, w_560⟩
theorem dX2_open_14 : decode cX2_open 14 = .ok (.putfield 55, 3) := by decide +kernel
theorem flw_X2_55 : flw RX2 55 3 9 (.int) := ⟨RX2, TX2, 11, tyX2, rfl, inA_X2, by decide, w_245, tyX2_ok, nmX2, by decide +kernel, Or.inl rfl⟩
theorem dX2_open_17 : decode cX2_open 17 = .ok (.aload_n 0, 1) := by decide +kernel
theorem dX2_open_18 : decode cX2_open 18 = .ok (.aload_n 1, 1) := by decide +kernel
theorem dX2_open_19 : decode cX2_open 19 = .ok (.getfield 56, 3) := by decide +kernel
theorem w_564 : Cond.fieldLink "QuarterWalks$Grid" 56 "QuarterWalks$StepSet" "startY" "I" ∈ wAll := wI2 229 (by decide +kernel) (by decide +kernel)
theorem fl_X2_56 : fl RX2 56 7 2 := ⟨RX6, TX6, 4, rfl, inA_X6, by decide, w_564⟩
theorem dX2_open_22 : decode cX2_open 22 = .ok (.putfield 59, 3) := by decide +kernel
theorem flw_X2_59 : flw RX2 59 3 10 (.int) := ⟨RX2, TX2, 11, tyX2, rfl, inA_X2, by decide, w_246, tyX2_ok, nmX2, by decide +kernel, Or.inl rfl⟩
theorem dX2_open_25 : decode cX2_open 25 = .ok (.iload_n 3, 1) := by decide +kernel
theorem dX2_open_26 : decode cX2_open 26 = .ok (.ifCond .eq 8, 3) := by decide +kernel
theorem dX2_open_34 : decode cX2_open 34 = .ok (.iconst 1, 1) := by decide +kernel
theorem dX2_open_35 : decode cX2_open 35 = .ok (.goto 4, 3) := by decide +kernel
theorem dX2_open_39 : decode cX2_open 39 = .ok (.istore 4, 2) := by decide +kernel
theorem dX2_open_41 : decode cX2_open 41 = .ok (.iload_n 3, 1) := by decide +kernel
theorem dX2_open_42 : decode cX2_open 42 = .ok (.ifCond .eq 8, 3) := by decide +kernel
theorem dX2_open_50 : decode cX2_open 50 = .ok (.iconst 1, 1) := by decide +kernel
theorem dX2_open_51 : decode cX2_open 51 = .ok (.goto 4, 3) := by decide +kernel
theorem dX2_open_55 : decode cX2_open 55 = .ok (.istore 5, 2) := by decide +kernel
theorem dX2_open_29 : decode cX2_open 29 = .ok (.iload_n 3, 1) := by decide +kernel
theorem dX2_open_30 : decode cX2_open 30 = .ok (.iconst 3, 1) := by decide +kernel
theorem dX2_open_31 : decode cX2_open 31 = .ok (.if_icmp .ne 7, 3) := by decide +kernel
theorem dX2_open_38 : decode cX2_open 38 = .ok (.iconst 0, 1) := by decide +kernel
theorem dX2_open_45 : decode cX2_open 45 = .ok (.iload_n 3, 1) := by decide +kernel
theorem dX2_open_46 : decode cX2_open 46 = .ok (.iconst 1, 1) := by decide +kernel
theorem dX2_open_47 : decode cX2_open 47 = .ok (.if_icmp .ne 7, 3) := by decide +kernel
theorem dX2_open_54 : decode cX2_open 54 = .ok (.iconst 0, 1) := by decide +kernel
theorem dX2_open_57 : decode cX2_open 57 = .ok (.aload_n 0, 1) := by decide +kernel
theorem dX2_open_58 : decode cX2_open 58 = .ok (.getfield 21, 3) := by decide +kernel
theorem w_238 : Cond.fieldLink "QuarterWalks$Grid" 21 "QuarterWalks$Grid" "room" "LQuarterWalks$Box;" ∈ wAll := wI1 143 (by decide +kernel) (by decide +kernel)
theorem fl_X2_21 : fl RX2 21 3 2 := ⟨RX2, TX2, 11, rfl, inA_X2, by decide, w_238⟩
theorem dX2_open_61 : decode cX2_open 61 = .ok (.iload 4, 2) := by decide +kernel
theorem dX2_open_63 : decode cX2_open 63 = .ok (.ifCond .eq 7, 3) := by decide +kernel
theorem dX2_open_70 : decode cX2_open 70 = .ok (.aload_n 0, 1) := by decide +kernel
theorem dX2_open_71 : decode cX2_open 71 = .ok (.getfield 55, 3) := by decide +kernel
theorem dX2_open_74 : decode cX2_open 74 = .ok (.bipush 60, 2) := by decide +kernel
theorem dX2_open_76 : decode cX2_open 76 = .ok (.isub, 1) := by decide +kernel
theorem dX2_open_77 : decode cX2_open 77 = .ok (.putfield 60, 3) := by decide +kernel
theorem flw_X2_60 : flw RX2 60 2 0 (.int) := ⟨RX1, TX1, 4, tyX1, rfl, inA_X1, by decide, w_219, tyX1_ok, nmX1, by decide +kernel, Or.inl rfl⟩
theorem dX2_open_66 : decode cX2_open 66 = .ok (.iconst 0, 1) := by decide +kernel
theorem dX2_open_67 : decode cX2_open 67 = .ok (.goto 10, 3) := by decide +kernel
theorem dX2_open_80 : decode cX2_open 80 = .ok (.aload_n 0, 1) := by decide +kernel
theorem dX2_open_81 : decode cX2_open 81 = .ok (.getfield 21, 3) := by decide +kernel
theorem dX2_open_84 : decode cX2_open 84 = .ok (.iload 5, 2) := by decide +kernel
theorem dX2_open_86 : decode cX2_open 86 = .ok (.ifCond .eq 7, 3) := by decide +kernel
theorem dX2_open_93 : decode cX2_open 93 = .ok (.aload_n 0, 1) := by decide +kernel
theorem dX2_open_94 : decode cX2_open 94 = .ok (.getfield 59, 3) := by decide +kernel
theorem dX2_open_97 : decode cX2_open 97 = .ok (.bipush 60, 2) := by decide +kernel
theorem dX2_open_99 : decode cX2_open 99 = .ok (.isub, 1) := by decide +kernel
theorem dX2_open_100 : decode cX2_open 100 = .ok (.putfield 63, 3) := by decide +kernel
theorem flw_X2_63 : flw RX2 63 2 1 (.int) := ⟨RX1, TX1, 4, tyX1, rfl, inA_X1, by decide, w_221, tyX1_ok, nmX1, by decide +kernel, Or.inl rfl⟩
theorem dX2_open_89 : decode cX2_open 89 = .ok (.iconst 0, 1) := by decide +kernel
theorem dX2_open_90 : decode cX2_open 90 = .ok (.goto 10, 3) := by decide +kernel
theorem dX2_open_103 : decode cX2_open 103 = .ok (.aload_n 0, 1) := by decide +kernel
theorem dX2_open_104 : decode cX2_open 104 = .ok (.getfield 21, 3) := by decide +kernel
theorem dX2_open_107 : decode cX2_open 107 = .ok (.aload_n 0, 1) := by decide +kernel
theorem dX2_open_108 : decode cX2_open 108 = .ok (.getfield 55, 3) := by decide +kernel
theorem dX2_open_111 : decode cX2_open 111 = .ok (.bipush 60, 2) := by decide +kernel
theorem dX2_open_113 : decode cX2_open 113 = .ok (.iadd, 1) := by decide +kernel
theorem dX2_open_114 : decode cX2_open 114 = .ok (.putfield 66, 3) := by decide +kernel
theorem flw_X2_66 : flw RX2 66 2 2 (.int) := ⟨RX1, TX1, 4, tyX1, rfl, inA_X1, by decide, w_223, tyX1_ok, nmX1, by decide +kernel, Or.inl rfl⟩
theorem dX2_open_117 : decode cX2_open 117 = .ok (.aload_n 0, 1) := by decide +kernel
theorem dX2_open_118 : decode cX2_open 118 = .ok (.getfield 21, 3) := by decide +kernel
theorem dX2_open_121 : decode cX2_open 121 = .ok (.aload_n 0, 1) := by decide +kernel
theorem dX2_open_122 : decode cX2_open 122 = .ok (.getfield 59, 3) := by decide +kernel
theorem dX2_open_125 : decode cX2_open 125 = .ok (.bipush 60, 2) := by decide +kernel
theorem dX2_open_127 : decode cX2_open 127 = .ok (.iadd, 1) := by decide +kernel
theorem dX2_open_128 : decode cX2_open 128 = .ok (.putfield 69, 3) := by decide +kernel
theorem flw_X2_69 : flw RX2 69 2 3 (.int) := ⟨RX1, TX1, 4, tyX1, rfl, inA_X1, by decide, w_225, tyX1_ok, nmX1, by decide +kernel, Or.inl rfl⟩
theorem dX2_open_131 : decode cX2_open 131 = .ok (.aload_n 0, 1) := by decide +kernel
theorem dX2_open_132 : decode cX2_open 132 = .ok (.getfield 25, 3) := by decide +kernel
theorem dX2_open_135 : decode cX2_open 135 = .ok (.aload_n 0, 1) := by decide +kernel
theorem dX2_open_136 : decode cX2_open 136 = .ok (.getfield 55, 3) := by decide +kernel
theorem dX2_open_139 : decode cX2_open 139 = .ok (.putfield 60, 3) := by decide +kernel
theorem dX2_open_142 : decode cX2_open 142 = .ok (.aload_n 0, 1) := by decide +kernel
theorem dX2_open_143 : decode cX2_open 143 = .ok (.getfield 25, 3) := by decide +kernel
theorem dX2_open_146 : decode cX2_open 146 = .ok (.aload_n 0, 1) := by decide +kernel
theorem dX2_open_147 : decode cX2_open 147 = .ok (.getfield 59, 3) := by decide +kernel
theorem dX2_open_150 : decode cX2_open 150 = .ok (.putfield 63, 3) := by decide +kernel
theorem dX2_open_153 : decode cX2_open 153 = .ok (.aload_n 0, 1) := by decide +kernel
theorem dX2_open_154 : decode cX2_open 154 = .ok (.getfield 25, 3) := by decide +kernel
theorem dX2_open_157 : decode cX2_open 157 = .ok (.aload_n 0, 1) := by decide +kernel
theorem dX2_open_158 : decode cX2_open 158 = .ok (.getfield 55, 3) := by decide +kernel
theorem dX2_open_161 : decode cX2_open 161 = .ok (.putfield 66, 3) := by decide +kernel
theorem dX2_open_164 : decode cX2_open 164 = .ok (.aload_n 0, 1) := by decide +kernel
theorem dX2_open_165 : decode cX2_open 165 = .ok (.getfield 25, 3) := by decide +kernel
theorem dX2_open_168 : decode cX2_open 168 = .ok (.aload_n 0, 1) := by decide +kernel
theorem dX2_open_169 : decode cX2_open 169 = .ok (.getfield 59, 3) := by decide +kernel
theorem dX2_open_172 : decode cX2_open 172 = .ok (.putfield 69, 3) := by decide +kernel
theorem dX2_open_175 : decode cX2_open 175 = .ok (.aload_n 0, 1) := by decide +kernel
theorem dX2_open_176 : decode cX2_open 176 = .ok (.aload_n 1, 1) := by decide +kernel
theorem dX2_open_177 : decode cX2_open 177 = .ok (.invokevirtual 72, 3) := by decide +kernel
theorem w_675 : Cond.methodLink "QuarterWalks$Grid" 72 yX2_takeSteps ∈ wAll := wI3 100 (by decide +kernel) (by decide +kernel)
theorem w_13 : Cond.selects yX2_takeSteps.cls yX2_takeSteps yX2_takeSteps ∈ wAll := wIn 13 (by decide +kernel) (by decide +kernel)
theorem mk_X2_takeSteps : mk yX2_takeSteps 1 := ⟨by decide +kernel, w_100⟩
theorem w_677 : Cond.instanceMethod yX2_takeSteps ∈ wAll := wI3 102 (by decide +kernel) (by decide +kernel)
theorem w_678 : Cond.code yX2_takeSteps cX2_takeSteps 3 none ∈ wAll := wI3 103 (by decide +kernel) (by decide +kernel)
theorem dX2_open_180 : decode cX2_open 180 = .ok (.aload_n 0, 1) := by decide +kernel
theorem dX2_open_181 : decode cX2_open 181 = .ok (.getfield 11, 3) := by decide +kernel
theorem dX2_open_184 : decode cX2_open 184 = .ok (.aload_n 0, 1) := by decide +kernel
theorem dX2_open_185 : decode cX2_open 185 = .ok (.aload_n 0, 1) := by decide +kernel
theorem dX2_open_186 : decode cX2_open 186 = .ok (.getfield 55, 3) := by decide +kernel
theorem dX2_open_189 : decode cX2_open 189 = .ok (.aload_n 0, 1) := by decide +kernel
theorem dX2_open_190 : decode cX2_open 190 = .ok (.getfield 59, 3) := by decide +kernel
theorem dX2_open_193 : decode cX2_open 193 = .ok (.invokevirtual 76, 3) := by decide +kernel
theorem dX2_open_196 : decode cX2_open 196 = .ok (.lconst 1, 1) := by decide +kernel
theorem dX2_open_197 : decode cX2_open 197 = .ok (.lastore, 1) := by decide +kernel
theorem dX2_open_198 : decode cX2_open 198 = .ok (.return_, 1) := by decide +kernel
theorem dX2_close_0 : decode cX2_close 0 = .ok (.aload_n 0, 1) := by decide +kernel
theorem dX2_close_1 : decode cX2_close 1 = .ok (.getfield 21, 3) := by decide +kernel
theorem dX2_close_4 : decode cX2_close 4 = .ok (.aload_n 0, 1) := by decide +kernel
theorem dX2_close_5 : decode cX2_close 5 = .ok (.getfield 21, 3) := by decide +kernel
theorem dX2_close_8 : decode cX2_close 8 = .ok (.getfield 66, 3) := by decide +kernel
theorem dX2_close_11 : decode cX2_close 11 = .ok (.iload_n 1, 1) := by decide +kernel
theorem dX2_close_12 : decode cX2_close 12 = .ok (.invokestatic 80, 3) := by decide +kernel
theorem w_696 : Cond.methodLink "QuarterWalks$Grid" 80 yJ9_min_7cf53 ∈ wAll := wI3 121 (by decide +kernel) (by decide +kernel)
theorem dX2_close_15 : decode cX2_close 15 = .ok (.putfield 66, 3) := by decide +kernel
theorem dX2_close_18 : decode cX2_close 18 = .ok (.aload_n 0, 1) := by decide +kernel
theorem dX2_close_19 : decode cX2_close 19 = .ok (.getfield 21, 3) := by decide +kernel
theorem dX2_close_22 : decode cX2_close 22 = .ok (.aload_n 0, 1) := by decide +kernel
theorem dX2_close_23 : decode cX2_close 23 = .ok (.getfield 21, 3) := by decide +kernel
theorem dX2_close_26 : decode cX2_close 26 = .ok (.getfield 69, 3) := by decide +kernel
theorem dX2_close_29 : decode cX2_close 29 = .ok (.iload_n 2, 1) := by decide +kernel
theorem dX2_close_30 : decode cX2_close 30 = .ok (.invokestatic 80, 3) := by decide +kernel
theorem dX2_close_33 : decode cX2_close 33 = .ok (.putfield 69, 3) := by decide +kernel
theorem dX2_close_36 : decode cX2_close 36 = .ok (.return_, 1) := by decide +kernel
theorem dX2_settled_0 : decode cX2_settled 0 = .ok (.aload_n 0, 1) := by decide +kernel
theorem dX2_settled_1 : decode cX2_settled 1 = .ok (.getfield 46, 3) := by decide +kernel
theorem dX2_settled_4 : decode cX2_settled 4 = .ok (.ifCond .ne 9, 3) := by decide +kernel
theorem dX2_settled_13 : decode cX2_settled 13 = .ok (.aload_n 0, 1) := by decide +kernel
theorem dX2_settled_14 : decode cX2_settled 14 = .ok (.getfield 46, 3) := by decide +kernel
theorem dX2_settled_17 : decode cX2_settled 17 = .ok (.iconst 3, 1) := by decide +kernel
theorem dX2_settled_18 : decode cX2_settled 18 = .ok (.if_icmp .ne 11, 3) := by decide +kernel
theorem dX2_settled_29 : decode cX2_settled 29 = .ok (.lload_n 1, 1) := by decide +kernel
theorem dX2_settled_21 : decode cX2_settled 21 = .ok (.lload_n 1, 1) := by decide +kernel
theorem dX2_settled_22 : decode cX2_settled 22 = .ok (.lconst 1, 1) := by decide +kernel
theorem dX2_settled_23 : decode cX2_settled 23 = .ok (.invokestatic 118, 3) := by decide +kernel
theorem w_706 : Cond.methodLink "QuarterWalks$Grid" 118 yJ9_min_f86c9 ∈ wAll := wI3 131 (by decide +kernel) (by decide +kernel)
theorem w_707 : Cond.static yJ9_min_f86c9 ∈ wAll := wI3 132 (by decide +kernel) (by decide +kernel)
theorem w_708 : Cond.code yJ9_min_f86c9 cJ9_min_f86c9 4 (some .long) ∈ wAll := wI3 133 (by decide +kernel) (by decide +kernel)
theorem dX2_settled_26 : decode cX2_settled 26 = .ok (.goto 4, 3) := by decide +kernel
theorem dX2_settled_7 : decode cX2_settled 7 = .ok (.lload_n 1, 1) := by decide +kernel
theorem dX2_settled_8 : decode cX2_settled 8 = .ok (.ldc2_w 116, 3) := by decide +kernel
theorem w_705 : Cond.constantLong "QuarterWalks$Grid" 116 1000003 ∈ wAll := wI3 130 (by decide +kernel) (by decide +kernel)
theorem dX2_settled_11 : decode cX2_settled 11 = .ok (.lrem, 1) := by decide +kernel
theorem dX2_settled_30 : decode cX2_settled 30 = .ok (.lreturn, 1) := by decide +kernel
theorem dX2_settled_12 : decode cX2_settled 12 = .ok (.lreturn, 1) := by decide +kernel
theorem dX2_widen_0 : decode cX2_widen 0 = .ok (.aload_n 0, 1) := by decide +kernel
theorem dX2_widen_1 : decode cX2_widen 1 = .ok (.getfield 92, 3) := by decide +kernel
theorem fl_X2_92 : fl RX2 92 3 7 := ⟨RX2, TX2, 11, rfl, inA_X2, by decide, w_243⟩
theorem dX2_widen_4 : decode cX2_widen 4 = .ok (.sipush 224, 3) := by decide +kernel
theorem dX2_widen_7 : decode cX2_widen 7 = .ok (.iand, 1) := by decide +kernel
theorem dX2_widen_8 : decode cX2_widen 8 = .ok (.ifCond .eq 29, 3) := by decide +kernel
theorem dX2_widen_11 : decode cX2_widen 11 = .ok (.aload_n 0, 1) := by decide +kernel
theorem dX2_widen_12 : decode cX2_widen 12 = .ok (.getfield 25, 3) := by decide +kernel
theorem dX2_widen_15 : decode cX2_widen 15 = .ok (.aload_n 0, 1) := by decide +kernel
theorem dX2_widen_16 : decode cX2_widen 16 = .ok (.getfield 25, 3) := by decide +kernel
theorem dX2_widen_19 : decode cX2_widen 19 = .ok (.getfield 60, 3) := by decide +kernel
theorem dX2_widen_22 : decode cX2_widen 22 = .ok (.iconst 1, 1) := by decide +kernel
theorem dX2_widen_23 : decode cX2_widen 23 = .ok (.isub, 1) := by decide +kernel
theorem dX2_widen_24 : decode cX2_widen 24 = .ok (.aload_n 0, 1) := by decide +kernel
theorem dX2_widen_25 : decode cX2_widen 25 = .ok (.getfield 21, 3) := by decide +kernel
theorem dX2_widen_28 : decode cX2_widen 28 = .ok (.getfield 60, 3) := by decide +kernel
theorem dX2_widen_31 : decode cX2_widen 31 = .ok (.invokestatic 109, 3) := by decide +kernel
theorem w_695 : Cond.methodLink "QuarterWalks$Grid" 109 yJ9_max_7cf53 ∈ wAll := wI3 120 (by decide +kernel) (by decide +kernel)
theorem dX2_widen_34 : decode cX2_widen 34 = .ok (.putfield 60, 3) := by decide +kernel
theorem dX2_widen_37 : decode cX2_widen 37 = .ok (.aload_n 0, 1) := by decide +kernel
theorem dX2_widen_38 : decode cX2_widen 38 = .ok (.getfield 92, 3) := by decide +kernel
theorem dX2_widen_41 : decode cX2_widen 41 = .ok (.bipush 14, 2) := by decide +kernel
theorem dX2_widen_43 : decode cX2_widen 43 = .ok (.iand, 1) := by decide +kernel
theorem dX2_widen_44 : decode cX2_widen 44 = .ok (.ifCond .eq 29, 3) := by decide +kernel
theorem dX2_widen_47 : decode cX2_widen 47 = .ok (.aload_n 0, 1) := by decide +kernel
theorem dX2_widen_48 : decode cX2_widen 48 = .ok (.getfield 25, 3) := by decide +kernel
theorem dX2_widen_51 : decode cX2_widen 51 = .ok (.aload_n 0, 1) := by decide +kernel
theorem dX2_widen_52 : decode cX2_widen 52 = .ok (.getfield 25, 3) := by decide +kernel
theorem dX2_widen_55 : decode cX2_widen 55 = .ok (.getfield 66, 3) := by decide +kernel
theorem dX2_widen_58 : decode cX2_widen 58 = .ok (.iconst 1, 1) := by decide +kernel
theorem dX2_widen_59 : decode cX2_widen 59 = .ok (.iadd, 1) := by decide +kernel
theorem dX2_widen_60 : decode cX2_widen 60 = .ok (.aload_n 0, 1) := by decide +kernel
theorem dX2_widen_61 : decode cX2_widen 61 = .ok (.getfield 21, 3) := by decide +kernel
theorem dX2_widen_64 : decode cX2_widen 64 = .ok (.getfield 66, 3) := by decide +kernel
theorem dX2_widen_67 : decode cX2_widen 67 = .ok (.invokestatic 80, 3) := by decide +kernel
theorem dX2_widen_70 : decode cX2_widen 70 = .ok (.putfield 66, 3) := by decide +kernel
theorem dX2_widen_73 : decode cX2_widen 73 = .ok (.aload_n 0, 1) := by decide +kernel
theorem dX2_widen_74 : decode cX2_widen 74 = .ok (.getfield 92, 3) := by decide +kernel
theorem dX2_widen_77 : decode cX2_widen 77 = .ok (.bipush 56, 2) := by decide +kernel
theorem dX2_widen_79 : decode cX2_widen 79 = .ok (.iand, 1) := by decide +kernel
theorem dX2_widen_80 : decode cX2_widen 80 = .ok (.ifCond .eq 29, 3) := by decide +kernel
theorem dX2_widen_109 : decode cX2_widen 109 = .ok (.aload_n 0, 1) := by decide +kernel
theorem dX2_widen_110 : decode cX2_widen 110 = .ok (.getfield 92, 3) := by decide +kernel
theorem dX2_widen_113 : decode cX2_widen 113 = .ok (.sipush 131, 3) := by decide +kernel
theorem dX2_widen_116 : decode cX2_widen 116 = .ok (.iand, 1) := by decide +kernel
theorem dX2_widen_117 : decode cX2_widen 117 = .ok (.ifCond .eq 29, 3) := by decide +kernel
theorem dX2_widen_120 : decode cX2_widen 120 = .ok (.aload_n 0, 1) := by decide +kernel
theorem dX2_widen_121 : decode cX2_widen 121 = .ok (.getfield 25, 3) := by decide +kernel
theorem dX2_widen_124 : decode cX2_widen 124 = .ok (.aload_n 0, 1) := by decide +kernel
theorem dX2_widen_125 : decode cX2_widen 125 = .ok (.getfield 25, 3) := by decide +kernel
theorem dX2_widen_128 : decode cX2_widen 128 = .ok (.getfield 69, 3) := by decide +kernel
theorem dX2_widen_131 : decode cX2_widen 131 = .ok (.iconst 1, 1) := by decide +kernel
theorem dX2_widen_132 : decode cX2_widen 132 = .ok (.iadd, 1) := by decide +kernel
theorem dX2_widen_133 : decode cX2_widen 133 = .ok (.aload_n 0, 1) := by decide +kernel
theorem dX2_widen_134 : decode cX2_widen 134 = .ok (.getfield 21, 3) := by decide +kernel
theorem dX2_widen_137 : decode cX2_widen 137 = .ok (.getfield 69, 3) := by decide +kernel
theorem dX2_widen_140 : decode cX2_widen 140 = .ok (.invokestatic 80, 3) := by decide +kernel
theorem dX2_widen_143 : decode cX2_widen 143 = .ok (.putfield 69, 3) := by decide +kernel
theorem dX2_widen_83 : decode cX2_widen 83 = .ok (.aload_n 0, 1) := by decide +kernel
theorem dX2_widen_84 : decode cX2_widen 84 = .ok (.getfield 25, 3) := by decide +kernel
theorem dX2_widen_87 : decode cX2_widen 87 = .ok (.aload_n 0, 1) := by decide +kernel
theorem dX2_widen_88 : decode cX2_widen 88 = .ok (.getfield 25, 3) := by decide +kernel
theorem dX2_widen_91 : decode cX2_widen 91 = .ok (.getfield 63, 3) := by decide +kernel
theorem dX2_widen_94 : decode cX2_widen 94 = .ok (.iconst 1, 1) := by decide +kernel
theorem dX2_widen_95 : decode cX2_widen 95 = .ok (.isub, 1) := by decide +kernel
theorem dX2_widen_96 : decode cX2_widen 96 = .ok (.aload_n 0, 1) := by decide +kernel
theorem dX2_widen_97 : decode cX2_widen 97 = .ok (.getfield 21, 3) := by decide +kernel
theorem dX2_widen_100 : decode cX2_widen 100 = .ok (.getfield 63, 3) := by decide +kernel
theorem dX2_widen_103 : decode cX2_widen 103 = .ok (.invokestatic 109, 3) := by decide +kernel
theorem dX2_widen_106 : decode cX2_widen 106 = .ok (.putfield 63, 3) := by decide +kernel
theorem dX2_widen_146 : decode cX2_widen 146 = .ok (.return_, 1) := by decide +kernel
theorem dX2_gather_0 : decode cX2_gather 0 = .ok (.aload_n 0, 1) := by decide +kernel
theorem dX2_gather_1 : decode cX2_gather 1 = .ok (.getfield 25, 3) := by decide +kernel
theorem dX2_gather_4 : decode cX2_gather 4 = .ok (.getfield 60, 3) := by decide +kernel
theorem dX2_gather_7 : decode cX2_gather 7 = .ok (.istore_n 1, 1) := by decide +kernel
theorem dX2_gather_8 : decode cX2_gather 8 = .ok (.iload_n 1, 1) := by decide +kernel
theorem dX2_gather_9 : decode cX2_gather 9 = .ok (.aload_n 0, 1) := by decide +kernel
theorem dX2_gather_10 : decode cX2_gather 10 = .ok (.getfield 25, 3) := by decide +kernel
theorem dX2_gather_13 : decode cX2_gather 13 = .ok (.getfield 66, 3) := by decide +kernel
theorem dX2_gather_16 : decode cX2_gather 16 = .ok (.if_icmp .gt 106, 3) := by decide +kernel
theorem dX2_gather_19 : decode cX2_gather 19 = .ok (.aload_n 0, 1) := by decide +kernel
theorem dX2_gather_20 : decode cX2_gather 20 = .ok (.iload_n 1, 1) := by decide +kernel
theorem dX2_gather_21 : decode cX2_gather 21 = .ok (.aload_n 0, 1) := by decide +kernel
theorem dX2_gather_22 : decode cX2_gather 22 = .ok (.getfield 25, 3) := by decide +kernel
theorem dX2_gather_25 : decode cX2_gather 25 = .ok (.getfield 69, 3) := by decide +kernel
theorem dX2_gather_28 : decode cX2_gather 28 = .ok (.invokevirtual 76, 3) := by decide +kernel
theorem dX2_gather_31 : decode cX2_gather 31 = .ok (.istore_n 2, 1) := by decide +kernel
theorem dX2_gather_32 : decode cX2_gather 32 = .ok (.aload_n 0, 1) := by decide +kernel
theorem dX2_gather_33 : decode cX2_gather 33 = .ok (.iload_n 1, 1) := by decide +kernel
theorem dX2_gather_34 : decode cX2_gather 34 = .ok (.aload_n 0, 1) := by decide +kernel
theorem dX2_gather_35 : decode cX2_gather 35 = .ok (.getfield 25, 3) := by decide +kernel
theorem dX2_gather_38 : decode cX2_gather 38 = .ok (.getfield 63, 3) := by decide +kernel
theorem dX2_gather_41 : decode cX2_gather 41 = .ok (.invokevirtual 76, 3) := by decide +kernel
theorem dX2_gather_44 : decode cX2_gather 44 = .ok (.istore_n 3, 1) := by decide +kernel
theorem dX2_gather_45 : decode cX2_gather 45 = .ok (.iload_n 3, 1) := by decide +kernel
theorem dX2_gather_46 : decode cX2_gather 46 = .ok (.iload_n 2, 1) := by decide +kernel
theorem dX2_gather_47 : decode cX2_gather 47 = .ok (.if_icmp .gt 69, 3) := by decide +kernel
theorem dX2_gather_116 : decode cX2_gather 116 = .ok (.iinc 1 1, 3) := by decide +kernel
theorem dX2_gather_119 : decode cX2_gather 119 = .ok (.goto (-111), 3) := by decide +kernel
theorem dX2_gather_50 : decode cX2_gather 50 = .ok (.lconst 0, 1) := by decide +kernel
theorem dX2_gather_51 : decode cX2_gather 51 = .ok (.lstore 4, 2) := by decide +kernel
theorem dX2_gather_53 : decode cX2_gather 53 = .ok (.iconst 0, 1) := by decide +kernel
theorem dX2_gather_54 : decode cX2_gather 54 = .ok (.istore 6, 2) := by decide +kernel
theorem dX2_gather_56 : decode cX2_gather 56 = .ok (.iload 6, 2) := by decide +kernel
theorem dX2_gather_58 : decode cX2_gather 58 = .ok (.aload_n 0, 1) := by decide +kernel
theorem dX2_gather_59 : decode cX2_gather 59 = .ok (.getfield 85, 3) := by decide +kernel
theorem dX2_gather_62 : decode cX2_gather 62 = .ok (.if_icmp .ge 36, 3) := by decide +kernel
theorem dX2_gather_98 : decode cX2_gather 98 = .ok (.aload_n 0, 1) := by decide +kernel
theorem dX2_gather_99 : decode cX2_gather 99 = .ok (.getfield 15, 3) := by decide +kernel
theorem dX2_gather_102 : decode cX2_gather 102 = .ok (.iload_n 3, 1) := by decide +kernel
theorem dX2_gather_103 : decode cX2_gather 103 = .ok (.aload_n 0, 1) := by decide +kernel
theorem dX2_gather_104 : decode cX2_gather 104 = .ok (.lload 4, 2) := by decide +kernel
theorem dX2_gather_106 : decode cX2_gather 106 = .ok (.invokevirtual 112, 3) := by decide +kernel
theorem w_701 : Cond.methodLink "QuarterWalks$Grid" 112 yX2_settled ∈ wAll := wI3 126 (by decide +kernel) (by decide +kernel)
theorem w_16 : Cond.selects yX2_settled.cls yX2_settled yX2_settled ∈ wAll := wIn 16 (by decide +kernel) (by decide +kernel)
theorem mk_X2_settled : mk yX2_settled 1 := ⟨by decide +kernel, w_100⟩
theorem w_703 : Cond.instanceMethod yX2_settled ∈ wAll := wI3 128 (by decide +kernel) (by decide +kernel)
theorem w_704 : Cond.code yX2_settled cX2_settled 3 (some .long) ∈ wAll := wI3 129 (by decide +kernel) (by decide +kernel)
theorem dX2_gather_109 : decode cX2_gather 109 = .ok (.lastore, 1) := by decide +kernel
theorem dX2_gather_110 : decode cX2_gather 110 = .ok (.iinc 3 1, 3) := by decide +kernel
theorem dX2_gather_113 : decode cX2_gather 113 = .ok (.goto (-68), 3) := by decide +kernel
theorem dX2_gather_65 : decode cX2_gather 65 = .ok (.lload 4, 2) := by decide +kernel
theorem dX2_gather_67 : decode cX2_gather 67 = .ok (.aload_n 0, 1) := by decide +kernel
theorem dX2_gather_68 : decode cX2_gather 68 = .ok (.getfield 32, 3) := by decide +kernel
theorem dX2_gather_71 : decode cX2_gather 71 = .ok (.iload 6, 2) := by decide +kernel
theorem dX2_gather_73 : decode cX2_gather 73 = .ok (.laload, 1) := by decide +kernel
theorem dX2_gather_74 : decode cX2_gather 74 = .ok (.aload_n 0, 1) := by decide +kernel
theorem dX2_gather_75 : decode cX2_gather 75 = .ok (.getfield 11, 3) := by decide +kernel
theorem dX2_gather_78 : decode cX2_gather 78 = .ok (.iload_n 3, 1) := by decide +kernel
theorem dX2_gather_79 : decode cX2_gather 79 = .ok (.aload_n 0, 1) := by decide +kernel
theorem dX2_gather_80 : decode cX2_gather 80 = .ok (.getfield 28, 3) := by decide +kernel
theorem dX2_gather_83 : decode cX2_gather 83 = .ok (.iload 6, 2) := by decide +kernel
theorem dX2_gather_85 : decode cX2_gather 85 = .ok (.iaload, 1) := by decide +kernel
theorem dX2_gather_86 : decode cX2_gather 86 = .ok (.isub, 1) := by decide +kernel
theorem dX2_gather_87 : decode cX2_gather 87 = .ok (.laload, 1) := by decide +kernel
theorem dX2_gather_88 : decode cX2_gather 88 = .ok (.lmul, 1) := by decide +kernel
theorem dX2_gather_89 : decode cX2_gather 89 = .ok (.ladd, 1) := by decide +kernel
theorem dX2_gather_90 : decode cX2_gather 90 = .ok (.lstore 4, 2) := by decide +kernel
theorem dX2_gather_92 : decode cX2_gather 92 = .ok (.iinc 6 1, 3) := by decide +kernel
theorem dX2_gather_95 : decode cX2_gather 95 = .ok (.goto (-39), 3) := by decide +kernel
theorem dX2_gather_122 : decode cX2_gather 122 = .ok (.return_, 1) := by decide +kernel
theorem dX2_advance_0 : decode cX2_advance 0 = .ok (.iconst 0, 1) := by decide +kernel
theorem dX2_advance_1 : decode cX2_advance 1 = .ok (.istore_n 2, 1) := by decide +kernel
theorem dX2_advance_2 : decode cX2_advance 2 = .ok (.iload_n 2, 1) := by decide +kernel
theorem dX2_advance_3 : decode cX2_advance 3 = .ok (.iload_n 1, 1) := by decide +kernel
theorem dX2_advance_4 : decode cX2_advance 4 = .ok (.if_icmp .ge 35, 3) := by decide +kernel
theorem dX2_advance_7 : decode cX2_advance 7 = .ok (.aload_n 0, 1) := by decide +kernel
theorem dX2_advance_8 : decode cX2_advance 8 = .ok (.invokevirtual 103, 3) := by decide +kernel
theorem w_691 : Cond.methodLink "QuarterWalks$Grid" 103 yX2_widen ∈ wAll := wI3 116 (by decide +kernel) (by decide +kernel)
theorem w_14 : Cond.selects yX2_widen.cls yX2_widen yX2_widen ∈ wAll := wIn 14 (by decide +kernel) (by decide +kernel)
theorem mk_X2_widen : mk yX2_widen 0 := ⟨by decide +kernel, w_100⟩
theorem w_693 : Cond.instanceMethod yX2_widen ∈ wAll := wI3 118 (by decide +kernel) (by decide +kernel)
theorem w_694 : Cond.code yX2_widen cX2_widen 1 none ∈ wAll := wI3 119 (by decide +kernel) (by decide +kernel)
theorem dX2_advance_11 : decode cX2_advance 11 = .ok (.aload_n 0, 1) := by decide +kernel
theorem dX2_advance_12 : decode cX2_advance 12 = .ok (.invokevirtual 106, 3) := by decide +kernel
theorem w_697 : Cond.methodLink "QuarterWalks$Grid" 106 yX2_gather ∈ wAll := wI3 122 (by decide +kernel) (by decide +kernel)
theorem w_15 : Cond.selects yX2_gather.cls yX2_gather yX2_gather ∈ wAll := wIn 15 (by decide +kernel) (by decide +kernel)
theorem mk_X2_gather : mk yX2_gather 0 := ⟨by decide +kernel, w_100⟩
theorem w_699 : Cond.instanceMethod yX2_gather ∈ wAll := wI3 124 (by decide +kernel) (by decide +kernel)
theorem w_700 : Cond.code yX2_gather cX2_gather 7 none ∈ wAll := wI3 125 (by decide +kernel) (by decide +kernel)
theorem dX2_advance_15 : decode cX2_advance 15 = .ok (.aload_n 0, 1) := by decide +kernel
theorem dX2_advance_16 : decode cX2_advance 16 = .ok (.getfield 11, 3) := by decide +kernel
theorem dX2_advance_19 : decode cX2_advance 19 = .ok (.astore_n 3, 1) := by decide +kernel
theorem dX2_advance_20 : decode cX2_advance 20 = .ok (.aload_n 0, 1) := by decide +kernel
theorem dX2_advance_21 : decode cX2_advance 21 = .ok (.aload_n 0, 1) := by decide +kernel
theorem dX2_advance_22 : decode cX2_advance 22 = .ok (.getfield 15, 3) := by decide +kernel
theorem dX2_advance_25 : decode cX2_advance 25 = .ok (.putfield 11, 3) := by decide +kernel
theorem flw_X2_11 : flw RX2 11 3 0 (.array (.long)) := ⟨RX2, TX2, 11, tyX2, rfl, inA_X2, by decide, w_236, tyX2_ok, nmX2, by decide +kernel, Or.inl rfl⟩
theorem dX2_advance_28 : decode cX2_advance 28 = .ok (.aload_n 0, 1) := by decide +kernel
theorem dX2_advance_29 : decode cX2_advance 29 = .ok (.aload_n 3, 1) := by decide +kernel
theorem dX2_advance_30 : decode cX2_advance 30 = .ok (.putfield 15, 3) := by decide +kernel
theorem flw_X2_15 : flw RX2 15 3 1 (.array (.long)) := ⟨RX2, TX2, 11, tyX2, rfl, inA_X2, by decide, w_237, tyX2_ok, nmX2, by decide +kernel, Or.inl rfl⟩
theorem dX2_advance_33 : decode cX2_advance 33 = .ok (.iinc 2 1, 3) := by decide +kernel
theorem dX2_advance_36 : decode cX2_advance 36 = .ok (.goto (-34), 3) := by decide +kernel
theorem dX2_advance_39 : decode cX2_advance 39 = .ok (.return_, 1) := by decide +kernel
theorem dX2_go_0 : decode cX2_go 0 = .ok (.aload_n 0, 1) := by decide +kernel
theorem dX2_go_1 : decode cX2_go 1 = .ok (.aload_n 1, 1) := by decide +kernel
theorem dX2_go_2 : decode cX2_go 2 = .ok (.iload_n 2, 1) := by decide +kernel
theorem dX2_go_3 : decode cX2_go 3 = .ok (.iload_n 3, 1) := by decide +kernel
theorem dX2_go_4 : decode cX2_go 4 = .ok (.invokevirtual 35, 3) := by decide +kernel
theorem w_663 : Cond.methodLink "QuarterWalks$Grid" 35 yX2_open ∈ wAll := wI3 88 (by decide +kernel) (by decide +kernel)
theorem w_665 : Cond.selects yX2_open.cls yX2_open yX2_open ∈ wAll := wI3 90 (by decide +kernel) (by decide +kernel)
theorem mk_X2_open : mk yX2_open 3 := ⟨by decide +kernel, w_100⟩
theorem w_664 : Cond.instanceMethod yX2_open ∈ wAll := wI3 89 (by decide +kernel) (by decide +kernel)
theorem w_666 : Cond.code yX2_open cX2_open 6 none ∈ wAll := wI3 91 (by decide +kernel) (by decide +kernel)
theorem dX2_go_7 : decode cX2_go 7 = .ok (.aload_n 0, 1) := by decide +kernel
theorem dX2_go_8 : decode cX2_go 8 = .ok (.iload 4, 2) := by decide +kernel
theorem dX2_go_10 : decode cX2_go 10 = .ok (.invokevirtual 39, 3) := by decide +kernel
theorem w_687 : Cond.methodLink "QuarterWalks$Grid" 39 yX2_advance ∈ wAll := wI3 112 (by decide +kernel) (by decide +kernel)
theorem w_689 : Cond.selects yX2_advance.cls yX2_advance yX2_advance ∈ wAll := wI3 114 (by decide +kernel) (by decide +kernel)
theorem mk_X2_advance : mk yX2_advance 1 := ⟨by decide +kernel, w_100⟩
theorem w_688 : Cond.instanceMethod yX2_advance ∈ wAll := wI3 113 (by decide +kernel) (by decide +kernel)
theorem w_690 : Cond.code yX2_advance cX2_advance 4 none ∈ wAll := wI3 115 (by decide +kernel) (by decide +kernel)
theorem dX2_go_13 : decode cX2_go 13 = .ok (.return_, 1) := by decide +kernel
theorem dX2_seen_0 : decode cX2_seen 0 = .ok (.aload_n 0, 1) := by decide +kernel
theorem dX2_seen_1 : decode cX2_seen 1 = .ok (.getfield 25, 3) := by decide +kernel
theorem dX2_seen_4 : decode cX2_seen 4 = .ok (.iload_n 1, 1) := by decide +kernel
theorem dX2_seen_5 : decode cX2_seen 5 = .ok (.iload_n 2, 1) := by decide +kernel
theorem dX2_seen_6 : decode cX2_seen 6 = .ok (.invokevirtual 121, 3) := by decide +kernel
theorem w_713 : Cond.methodLink "QuarterWalks$Grid" 121 yX1_holds ∈ wAll := wI3 138 (by decide +kernel) (by decide +kernel)
theorem w_715 : Cond.selects yX1_holds.cls yX1_holds yX1_holds ∈ wAll := wI3 140 (by decide +kernel) (by decide +kernel)
theorem w_101 : Cond.initialized "QuarterWalks$Box" ∈ wAll := wI1 6 (by decide +kernel) (by decide +kernel)
theorem mk_X1_holds : mk yX1_holds 2 := ⟨by decide +kernel, w_101⟩
theorem w_714 : Cond.instanceMethod yX1_holds ∈ wAll := wI3 139 (by decide +kernel) (by decide +kernel)
theorem w_716 : Cond.code yX1_holds cX1_holds 3 (some .boolean) ∈ wAll := wI3 141 (by decide +kernel) (by decide +kernel)
theorem dX2_seen_9 : decode cX2_seen 9 = .ok (.ifCond .eq 17, 3) := by decide +kernel
theorem dX2_seen_26 : decode cX2_seen 26 = .ok (.lconst 0, 1) := by decide +kernel
theorem dX2_seen_12 : decode cX2_seen 12 = .ok (.aload_n 0, 1) := by decide +kernel
theorem dX2_seen_13 : decode cX2_seen 13 = .ok (.getfield 11, 3) := by decide +kernel
theorem dX2_seen_16 : decode cX2_seen 16 = .ok (.aload_n 0, 1) := by decide +kernel
theorem dX2_seen_17 : decode cX2_seen 17 = .ok (.iload_n 1, 1) := by decide +kernel
theorem dX2_seen_18 : decode cX2_seen 18 = .ok (.iload_n 2, 1) := by decide +kernel
theorem dX2_seen_19 : decode cX2_seen 19 = .ok (.invokevirtual 76, 3) := by decide +kernel
theorem dX2_seen_22 : decode cX2_seen 22 = .ok (.laload, 1) := by decide +kernel
theorem dX2_seen_23 : decode cX2_seen 23 = .ok (.goto 4, 3) := by decide +kernel
theorem dX2_seen_27 : decode cX2_seen 27 = .ok (.lreturn, 1) := by decide +kernel
theorem dX2_total_0 : decode cX2_total 0 = .ok (.lconst 0, 1) := by decide +kernel
theorem dX2_total_1 : decode cX2_total 1 = .ok (.lstore_n 1, 1) := by decide +kernel
theorem dX2_total_2 : decode cX2_total 2 = .ok (.aload_n 0, 1) := by decide +kernel
theorem dX2_total_3 : decode cX2_total 3 = .ok (.getfield 25, 3) := by decide +kernel
theorem dX2_total_6 : decode cX2_total 6 = .ok (.getfield 60, 3) := by decide +kernel
theorem dX2_total_9 : decode cX2_total 9 = .ok (.istore_n 3, 1) := by decide +kernel
theorem dX2_total_10 : decode cX2_total 10 = .ok (.iload_n 3, 1) := by decide +kernel
theorem dX2_total_11 : decode cX2_total 11 = .ok (.aload_n 0, 1) := by decide +kernel
theorem dX2_total_12 : decode cX2_total 12 = .ok (.getfield 25, 3) := by decide +kernel
theorem dX2_total_15 : decode cX2_total 15 = .ok (.getfield 66, 3) := by decide +kernel
theorem dX2_total_18 : decode cX2_total 18 = .ok (.if_icmp .gt 60, 3) := by decide +kernel
theorem dX2_total_78 : decode cX2_total 78 = .ok (.lload_n 1, 1) := by decide +kernel
theorem dX2_total_79 : decode cX2_total 79 = .ok (.invokestatic 125, 3) := by decide +kernel
theorem dX2_total_21 : decode cX2_total 21 = .ok (.aload_n 0, 1) := by decide +kernel
theorem dX2_total_22 : decode cX2_total 22 = .ok (.iload_n 3, 1) := by decide +kernel
theorem dX2_total_23 : decode cX2_total 23 = .ok (.aload_n 0, 1) := by decide +kernel
theorem dX2_total_24 : decode cX2_total 24 = .ok (.getfield 25, 3) := by decide +kernel
theorem dX2_total_27 : decode cX2_total 27 = .ok (.getfield 69, 3) := by decide +kernel
theorem dX2_total_30 : decode cX2_total 30 = .ok (.invokevirtual 76, 3) := by decide +kernel
theorem dX2_total_33 : decode cX2_total 33 = .ok (.istore 4, 2) := by decide +kernel
theorem dX2_total_35 : decode cX2_total 35 = .ok (.aload_n 0, 1) := by decide +kernel
theorem dX2_total_36 : decode cX2_total 36 = .ok (.iload_n 3, 1) := by decide +kernel
theorem dX2_total_37 : decode cX2_total 37 = .ok (.aload_n 0, 1) := by decide +kernel
theorem dX2_total_38 : decode cX2_total 38 = .ok (.getfield 25, 3) := by decide +kernel
theorem dX2_total_41 : decode cX2_total 41 = .ok (.getfield 63, 3) := by decide +kernel
theorem dX2_total_44 : decode cX2_total 44 = .ok (.invokevirtual 76, 3) := by decide +kernel
theorem dX2_total_47 : decode cX2_total 47 = .ok (.istore 5, 2) := by decide +kernel
theorem dX2_total_49 : decode cX2_total 49 = .ok (.iload 5, 2) := by decide +kernel
theorem dX2_total_51 : decode cX2_total 51 = .ok (.iload 4, 2) := by decide +kernel
theorem dX2_total_53 : decode cX2_total 53 = .ok (.if_icmp .gt 19, 3) := by decide +kernel
theorem dX2_total_72 : decode cX2_total 72 = .ok (.iinc 3 1, 3) := by decide +kernel
theorem dX2_total_75 : decode cX2_total 75 = .ok (.goto (-65), 3) := by decide +kernel
theorem dX2_total_56 : decode cX2_total 56 = .ok (.lload_n 1, 1) := by decide +kernel
theorem dX2_total_57 : decode cX2_total 57 = .ok (.aload_n 0, 1) := by decide +kernel
theorem dX2_total_58 : decode cX2_total 58 = .ok (.getfield 11, 3) := by decide +kernel
theorem dX2_total_61 : decode cX2_total 61 = .ok (.iload 5, 2) := by decide +kernel
theorem dX2_total_63 : decode cX2_total 63 = .ok (.laload, 1) := by decide +kernel
theorem dX2_total_64 : decode cX2_total 64 = .ok (.ladd, 1) := by decide +kernel
theorem dX2_total_65 : decode cX2_total 65 = .ok (.lstore_n 1, 1) := by decide +kernel
theorem dX2_total_66 : decode cX2_total 66 = .ok (.iinc 5 1, 3) := by decide +kernel
theorem dX2_total_69 : decode cX2_total 69 = .ok (.goto (-20), 3) := by decide +kernel
theorem dX2_total_82 : decode cX2_total 82 = .ok (.ireturn, 1) := by decide +kernel
theorem dX2_alongLine_0 : decode cX2_alongLine 0 = .ok (.lconst 0, 1) := by decide +kernel
theorem dX2_alongLine_1 : decode cX2_alongLine 1 = .ok (.lstore_n 3, 1) := by decide +kernel
theorem dX2_alongLine_2 : decode cX2_alongLine 2 = .ok (.iconst 0, 1) := by decide +kernel
theorem dX2_alongLine_3 : decode cX2_alongLine 3 = .ok (.istore 5, 2) := by decide +kernel
theorem dX2_alongLine_5 : decode cX2_alongLine 5 = .ok (.iload 5, 2) := by decide +kernel
theorem dX2_alongLine_7 : decode cX2_alongLine 7 = .ok (.bipush 70, 2) := by decide +kernel
theorem dX2_alongLine_9 : decode cX2_alongLine 9 = .ok (.if_icmp .ge 24, 3) := by decide +kernel
theorem dX2_alongLine_12 : decode cX2_alongLine 12 = .ok (.lload_n 3, 1) := by decide +kernel
theorem dX2_alongLine_13 : decode cX2_alongLine 13 = .ok (.aload_n 0, 1) := by decide +kernel
theorem dX2_alongLine_14 : decode cX2_alongLine 14 = .ok (.iload 5, 2) := by decide +kernel
theorem dX2_alongLine_16 : decode cX2_alongLine 16 = .ok (.iload_n 1, 1) := by decide +kernel
theorem dX2_alongLine_17 : decode cX2_alongLine 17 = .ok (.imul, 1) := by decide +kernel
theorem dX2_alongLine_18 : decode cX2_alongLine 18 = .ok (.iload 5, 2) := by decide +kernel
theorem dX2_alongLine_20 : decode cX2_alongLine 20 = .ok (.iload_n 2, 1) := by decide +kernel
theorem dX2_alongLine_21 : decode cX2_alongLine 21 = .ok (.imul, 1) := by decide +kernel
theorem dX2_alongLine_22 : decode cX2_alongLine 22 = .ok (.invokevirtual 132, 3) := by decide +kernel
theorem w_744 : Cond.methodLink "QuarterWalks$Grid" 132 yX2_seen ∈ wAll := wI3 169 (by decide +kernel) (by decide +kernel)
theorem w_711 : Cond.selects yX2_seen.cls yX2_seen yX2_seen ∈ wAll := wI3 136 (by decide +kernel) (by decide +kernel)
theorem mk_X2_seen : mk yX2_seen 2 := ⟨by decide +kernel, w_100⟩
theorem w_710 : Cond.instanceMethod yX2_seen ∈ wAll := wI3 135 (by decide +kernel) (by decide +kernel)
theorem w_712 : Cond.code yX2_seen cX2_seen 3 (some .long) ∈ wAll := wI3 137 (by decide +kernel) (by decide +kernel)
theorem dX2_alongLine_25 : decode cX2_alongLine 25 = .ok (.ladd, 1) := by decide +kernel
theorem dX2_alongLine_26 : decode cX2_alongLine 26 = .ok (.lstore_n 3, 1) := by decide +kernel
theorem dX2_alongLine_27 : decode cX2_alongLine 27 = .ok (.iinc 5 1, 3) := by decide +kernel
theorem dX2_alongLine_30 : decode cX2_alongLine 30 = .ok (.goto (-25), 3) := by decide +kernel
theorem dX2_alongLine_33 : decode cX2_alongLine 33 = .ok (.lload_n 3, 1) := by decide +kernel
theorem dX2_alongLine_34 : decode cX2_alongLine 34 = .ok (.invokestatic 125, 3) := by decide +kernel
theorem dX2_alongLine_37 : decode cX2_alongLine 37 = .ok (.ireturn, 1) := by decide +kernel
theorem dX2_weightOut_0 : decode cX2_weightOut 0 = .ok (.iconst 0, 1) := by decide +kernel
theorem dX2_weightOut_1 : decode cX2_weightOut 1 = .ok (.istore 4, 2) := by decide +kernel
theorem dX2_weightOut_3 : decode cX2_weightOut 3 = .ok (.iconst 0, 1) := by decide +kernel
theorem dX2_weightOut_4 : decode cX2_weightOut 4 = .ok (.istore 5, 2) := by decide +kernel
theorem dX2_weightOut_6 : decode cX2_weightOut 6 = .ok (.iload 5, 2) := by decide +kernel
theorem dX2_weightOut_8 : decode cX2_weightOut 8 = .ok (.bipush 8, 2) := by decide +kernel
theorem dX2_weightOut_10 : decode cX2_weightOut 10 = .ok (.if_icmp .ge 43, 3) := by decide +kernel
theorem dX2_weightOut_13 : decode cX2_weightOut 13 = .ok (.iload_n 2, 1) := by decide +kernel
theorem dX2_weightOut_14 : decode cX2_weightOut 14 = .ok (.getstatic 97, 3) := by decide +kernel
theorem dX2_weightOut_17 : decode cX2_weightOut 17 = .ok (.iload 5, 2) := by decide +kernel
theorem dX2_weightOut_19 : decode cX2_weightOut 19 = .ok (.iaload, 1) := by decide +kernel
theorem dX2_weightOut_20 : decode cX2_weightOut 20 = .ok (.iadd, 1) := by decide +kernel
theorem dX2_weightOut_21 : decode cX2_weightOut 21 = .ok (.ifCond .lt 14, 3) := by decide +kernel
theorem dX2_weightOut_35 : decode cX2_weightOut 35 = .ok (.iload 4, 2) := by decide +kernel
theorem dX2_weightOut_37 : decode cX2_weightOut 37 = .ok (.aload_n 1, 1) := by decide +kernel
theorem dX2_weightOut_38 : decode cX2_weightOut 38 = .ok (.getfield 94, 3) := by decide +kernel
theorem dX2_weightOut_41 : decode cX2_weightOut 41 = .ok (.iload 5, 2) := by decide +kernel
theorem dX2_weightOut_43 : decode cX2_weightOut 43 = .ok (.iaload, 1) := by decide +kernel
theorem dX2_weightOut_44 : decode cX2_weightOut 44 = .ok (.iadd, 1) := by decide +kernel
theorem dX2_weightOut_45 : decode cX2_weightOut 45 = .ok (.istore 4, 2) := by decide +kernel
theorem dX2_weightOut_47 : decode cX2_weightOut 47 = .ok (.iinc 5 1, 3) := by decide +kernel
theorem dX2_weightOut_50 : decode cX2_weightOut 50 = .ok (.goto (-44), 3) := by decide +kernel
theorem dX2_weightOut_24 : decode cX2_weightOut 24 = .ok (.iload_n 3, 1) := by decide +kernel
theorem dX2_weightOut_25 : decode cX2_weightOut 25 = .ok (.getstatic 100, 3) := by decide +kernel
theorem dX2_weightOut_28 : decode cX2_weightOut 28 = .ok (.iload 5, 2) := by decide +kernel
theorem dX2_weightOut_30 : decode cX2_weightOut 30 = .ok (.iaload, 1) := by decide +kernel
theorem dX2_weightOut_31 : decode cX2_weightOut 31 = .ok (.iadd, 1) := by decide +kernel
theorem dX2_weightOut_32 : decode cX2_weightOut 32 = .ok (.ifCond .ge 15, 3) := by decide +kernel
theorem dX2_weightOut_53 : decode cX2_weightOut 53 = .ok (.iload 4, 2) := by decide +kernel
theorem dX2_weightOut_55 : decode cX2_weightOut 55 = .ok (.ireturn, 1) := by decide +kernel
theorem dX2_leaving_0 : decode cX2_leaving 0 = .ok (.lconst 0, 1) := by decide +kernel
theorem dX2_leaving_1 : decode cX2_leaving 1 = .ok (.lstore_n 2, 1) := by decide +kernel
theorem dX2_leaving_2 : decode cX2_leaving 2 = .ok (.aload_n 0, 1) := by decide +kernel
theorem dX2_leaving_3 : decode cX2_leaving 3 = .ok (.getfield 25, 3) := by decide +kernel
theorem dX2_leaving_6 : decode cX2_leaving 6 = .ok (.getfield 60, 3) := by decide +kernel
theorem dX2_leaving_9 : decode cX2_leaving 9 = .ok (.istore 4, 2) := by decide +kernel
theorem dX2_leaving_11 : decode cX2_leaving 11 = .ok (.iload 4, 2) := by decide +kernel
theorem dX2_leaving_13 : decode cX2_leaving 13 = .ok (.aload_n 0, 1) := by decide +kernel
theorem dX2_leaving_14 : decode cX2_leaving 14 = .ok (.getfield 25, 3) := by decide +kernel
theorem dX2_leaving_17 : decode cX2_leaving 17 = .ok (.getfield 66, 3) := by decide +kernel
theorem dX2_leaving_20 : decode cX2_leaving 20 = .ok (.if_icmp .gt 68, 3) := by decide +kernel
theorem dX2_leaving_88 : decode cX2_leaving 88 = .ok (.lload_n 2, 1) := by decide +kernel
theorem dX2_leaving_89 : decode cX2_leaving 89 = .ok (.invokestatic 125, 3) := by decide +kernel
theorem dX2_leaving_23 : decode cX2_leaving 23 = .ok (.aload_n 0, 1) := by decide +kernel
theorem dX2_leaving_24 : decode cX2_leaving 24 = .ok (.getfield 25, 3) := by decide +kernel
theorem dX2_leaving_27 : decode cX2_leaving 27 = .ok (.getfield 63, 3) := by decide +kernel
theorem dX2_leaving_30 : decode cX2_leaving 30 = .ok (.istore 5, 2) := by decide +kernel
theorem dX2_leaving_32 : decode cX2_leaving 32 = .ok (.iload 5, 2) := by decide +kernel
theorem dX2_leaving_34 : decode cX2_leaving 34 = .ok (.aload_n 0, 1) := by decide +kernel
theorem dX2_leaving_35 : decode cX2_leaving 35 = .ok (.getfield 25, 3) := by decide +kernel
theorem dX2_leaving_38 : decode cX2_leaving 38 = .ok (.getfield 69, 3) := by decide +kernel
theorem dX2_leaving_41 : decode cX2_leaving 41 = .ok (.if_icmp .gt 41, 3) := by decide +kernel
theorem dX2_leaving_82 : decode cX2_leaving 82 = .ok (.iinc 4 1, 3) := by decide +kernel
theorem dX2_leaving_85 : decode cX2_leaving 85 = .ok (.goto (-74), 3) := by decide +kernel
theorem dX2_leaving_44 : decode cX2_leaving 44 = .ok (.iload 4, 2) := by decide +kernel
theorem dX2_leaving_46 : decode cX2_leaving 46 = .ok (.ifCond .eq 8, 3) := by decide +kernel
theorem dX2_leaving_54 : decode cX2_leaving 54 = .ok (.lload_n 2, 1) := by decide +kernel
theorem dX2_leaving_55 : decode cX2_leaving 55 = .ok (.aload_n 0, 1) := by decide +kernel
theorem dX2_leaving_56 : decode cX2_leaving 56 = .ok (.iload 4, 2) := by decide +kernel
theorem dX2_leaving_58 : decode cX2_leaving 58 = .ok (.iload 5, 2) := by decide +kernel
theorem dX2_leaving_60 : decode cX2_leaving 60 = .ok (.invokevirtual 132, 3) := by decide +kernel
theorem dX2_leaving_63 : decode cX2_leaving 63 = .ok (.aload_n 0, 1) := by decide +kernel
theorem dX2_leaving_64 : decode cX2_leaving 64 = .ok (.aload_n 1, 1) := by decide +kernel
theorem dX2_leaving_65 : decode cX2_leaving 65 = .ok (.iload 4, 2) := by decide +kernel
theorem dX2_leaving_67 : decode cX2_leaving 67 = .ok (.iload 5, 2) := by decide +kernel
theorem dX2_leaving_69 : decode cX2_leaving 69 = .ok (.invokevirtual 139, 3) := by decide +kernel
theorem w_843 : Cond.methodLink "QuarterWalks$Grid" 139 yX2_weightOut ∈ wAll := wI4 28 (by decide +kernel) (by decide +kernel)
theorem w_22 : Cond.selects yX2_weightOut.cls yX2_weightOut yX2_weightOut ∈ wAll := wIn 22 (by decide +kernel) (by decide +kernel)
theorem mk_X2_weightOut : mk yX2_weightOut 3 := ⟨by decide +kernel, w_100⟩
theorem w_845 : Cond.instanceMethod yX2_weightOut ∈ wAll := wI4 30 (by decide +kernel) (by decide +kernel)
theorem w_846 : Cond.code yX2_weightOut cX2_weightOut 6 (some .int) ∈ wAll := wI4 31 (by decide +kernel) (by decide +kernel)
theorem dX2_leaving_72 : decode cX2_leaving 72 = .ok (.i2l, 1) := by decide +kernel
theorem dX2_leaving_73 : decode cX2_leaving 73 = .ok (.lmul, 1) := by decide +kernel
theorem dX2_leaving_74 : decode cX2_leaving 74 = .ok (.ladd, 1) := by decide +kernel
theorem dX2_leaving_75 : decode cX2_leaving 75 = .ok (.lstore_n 2, 1) := by decide +kernel
theorem dX2_leaving_76 : decode cX2_leaving 76 = .ok (.iinc 5 1, 3) := by decide +kernel
theorem dX2_leaving_79 : decode cX2_leaving 79 = .ok (.goto (-47), 3) := by decide +kernel
theorem dX2_leaving_49 : decode cX2_leaving 49 = .ok (.iload 5, 2) := by decide +kernel
theorem dX2_leaving_51 : decode cX2_leaving 51 = .ok (.ifCond .ne 25, 3) := by decide +kernel
theorem dX2_leaving_92 : decode cX2_leaving 92 = .ok (.ireturn, 1) := by decide +kernel
theorem dX2_valueAt_0 : decode cX2_valueAt 0 = .ok (.iconst 0, 1) := by decide +kernel
theorem dX2_valueAt_1 : decode cX2_valueAt 1 = .ok (.istore_n 3, 1) := by decide +kernel
theorem dX2_valueAt_2 : decode cX2_valueAt 2 = .ok (.aload_n 0, 1) := by decide +kernel
theorem dX2_valueAt_3 : decode cX2_valueAt 3 = .ok (.getfield 25, 3) := by decide +kernel
theorem dX2_valueAt_6 : decode cX2_valueAt 6 = .ok (.getfield 66, 3) := by decide +kernel
theorem dX2_valueAt_9 : decode cX2_valueAt 9 = .ok (.istore 4, 2) := by decide +kernel
theorem dX2_valueAt_11 : decode cX2_valueAt 11 = .ok (.iload 4, 2) := by decide +kernel
theorem dX2_valueAt_13 : decode cX2_valueAt 13 = .ok (.ifCond .lt 65, 3) := by decide +kernel
theorem dX2_valueAt_78 : decode cX2_valueAt 78 = .ok (.iload_n 3, 1) := by decide +kernel
theorem dX2_valueAt_16 : decode cX2_valueAt 16 = .ok (.iconst 0, 1) := by decide +kernel
theorem dX2_valueAt_17 : decode cX2_valueAt 17 = .ok (.istore 5, 2) := by decide +kernel
theorem dX2_valueAt_19 : decode cX2_valueAt 19 = .ok (.aload_n 0, 1) := by decide +kernel
theorem dX2_valueAt_20 : decode cX2_valueAt 20 = .ok (.getfield 25, 3) := by decide +kernel
theorem dX2_valueAt_23 : decode cX2_valueAt 23 = .ok (.getfield 69, 3) := by decide +kernel
theorem dX2_valueAt_26 : decode cX2_valueAt 26 = .ok (.istore 6, 2) := by decide +kernel
theorem dX2_valueAt_28 : decode cX2_valueAt 28 = .ok (.iload 6, 2) := by decide +kernel
theorem dX2_valueAt_30 : decode cX2_valueAt 30 = .ok (.ifCond .lt 29, 3) := by decide +kernel
theorem dX2_valueAt_59 : decode cX2_valueAt 59 = .ok (.iload_n 3, 1) := by decide +kernel
theorem dX2_valueAt_60 : decode cX2_valueAt 60 = .ok (.i2l, 1) := by decide +kernel
theorem dX2_valueAt_61 : decode cX2_valueAt 61 = .ok (.iload_n 1, 1) := by decide +kernel
theorem dX2_valueAt_62 : decode cX2_valueAt 62 = .ok (.i2l, 1) := by decide +kernel
theorem dX2_valueAt_63 : decode cX2_valueAt 63 = .ok (.lmul, 1) := by decide +kernel
theorem dX2_valueAt_64 : decode cX2_valueAt 64 = .ok (.iload 5, 2) := by decide +kernel
theorem dX2_valueAt_66 : decode cX2_valueAt 66 = .ok (.i2l, 1) := by decide +kernel
theorem dX2_valueAt_67 : decode cX2_valueAt 67 = .ok (.ladd, 1) := by decide +kernel
theorem dX2_valueAt_68 : decode cX2_valueAt 68 = .ok (.invokestatic 125, 3) := by decide +kernel
theorem dX2_valueAt_71 : decode cX2_valueAt 71 = .ok (.istore_n 3, 1) := by decide +kernel
theorem dX2_valueAt_72 : decode cX2_valueAt 72 = .ok (.iinc 4 (-1), 3) := by decide +kernel
theorem dX2_valueAt_75 : decode cX2_valueAt 75 = .ok (.goto (-64), 3) := by decide +kernel
theorem dX2_valueAt_33 : decode cX2_valueAt 33 = .ok (.iload 5, 2) := by decide +kernel
theorem dX2_valueAt_35 : decode cX2_valueAt 35 = .ok (.i2l, 1) := by decide +kernel
theorem dX2_valueAt_36 : decode cX2_valueAt 36 = .ok (.iload_n 2, 1) := by decide +kernel
theorem dX2_valueAt_37 : decode cX2_valueAt 37 = .ok (.i2l, 1) := by decide +kernel
theorem dX2_valueAt_38 : decode cX2_valueAt 38 = .ok (.lmul, 1) := by decide +kernel
theorem dX2_valueAt_39 : decode cX2_valueAt 39 = .ok (.aload_n 0, 1) := by decide +kernel
theorem dX2_valueAt_40 : decode cX2_valueAt 40 = .ok (.iload 4, 2) := by decide +kernel
theorem dX2_valueAt_42 : decode cX2_valueAt 42 = .ok (.iload 6, 2) := by decide +kernel
theorem dX2_valueAt_44 : decode cX2_valueAt 44 = .ok (.invokevirtual 132, 3) := by decide +kernel
theorem dX2_valueAt_47 : decode cX2_valueAt 47 = .ok (.ladd, 1) := by decide +kernel
theorem dX2_valueAt_48 : decode cX2_valueAt 48 = .ok (.invokestatic 125, 3) := by decide +kernel
theorem dX2_valueAt_51 : decode cX2_valueAt 51 = .ok (.istore 5, 2) := by decide +kernel
theorem dX2_valueAt_53 : decode cX2_valueAt 53 = .ok (.iinc 6 (-1), 3) := by decide +kernel
theorem dX2_valueAt_56 : decode cX2_valueAt 56 = .ok (.goto (-28), 3) := by decide +kernel
theorem dX2_valueAt_79 : decode cX2_valueAt 79 = .ok (.ireturn, 1) := by decide +kernel
theorem dX2_highest_0 : decode cX2_highest 0 = .ok (.lconst 0, 1) := by decide +kernel
theorem dX2_highest_1 : decode cX2_highest 1 = .ok (.lstore_n 2, 1) := by decide +kernel
theorem dX2_highest_2 : decode cX2_highest 2 = .ok (.iconst 0, 1) := by decide +kernel
theorem dX2_highest_3 : decode cX2_highest 3 = .ok (.istore 4, 2) := by decide +kernel
theorem dX2_highest_5 : decode cX2_highest 5 = .ok (.iconst 0, 1) := by decide +kernel
theorem dX2_highest_6 : decode cX2_highest 6 = .ok (.istore 5, 2) := by decide +kernel
theorem dX2_highest_8 : decode cX2_highest 8 = .ok (.aload_n 0, 1) := by decide +kernel
theorem dX2_highest_9 : decode cX2_highest 9 = .ok (.getfield 25, 3) := by decide +kernel
theorem dX2_highest_12 : decode cX2_highest 12 = .ok (.getfield 60, 3) := by decide +kernel
theorem dX2_highest_15 : decode cX2_highest 15 = .ok (.istore 6, 2) := by decide +kernel
theorem dX2_highest_17 : decode cX2_highest 17 = .ok (.iload 6, 2) := by decide +kernel
theorem dX2_highest_19 : decode cX2_highest 19 = .ok (.aload_n 0, 1) := by decide +kernel
theorem dX2_highest_20 : decode cX2_highest 20 = .ok (.getfield 25, 3) := by decide +kernel
theorem dX2_highest_23 : decode cX2_highest 23 = .ok (.getfield 66, 3) := by decide +kernel
theorem dX2_highest_26 : decode cX2_highest 26 = .ok (.if_icmp .gt 66, 3) := by decide +kernel
theorem dX2_highest_92 : decode cX2_highest 92 = .ok (.lload_n 2, 1) := by decide +kernel
theorem dX2_highest_93 : decode cX2_highest 93 = .ok (.lconst 0, 1) := by decide +kernel
theorem dX2_highest_94 : decode cX2_highest 94 = .ok (.lcmp, 1) := by decide +kernel
theorem dX2_highest_95 : decode cX2_highest 95 = .ok (.ifCond .ne 6, 3) := by decide +kernel
theorem dX2_highest_101 : decode cX2_highest 101 = .ok (.iload_n 1, 1) := by decide +kernel
theorem dX2_highest_102 : decode cX2_highest 102 = .ok (.ifCond .ne 6, 3) := by decide +kernel
theorem dX2_highest_108 : decode cX2_highest 108 = .ok (.iload_n 1, 1) := by decide +kernel
theorem dX2_highest_109 : decode cX2_highest 109 = .ok (.iconst 1, 1) := by decide +kernel
theorem dX2_highest_110 : decode cX2_highest 110 = .ok (.if_icmp .ne 8, 3) := by decide +kernel
theorem dX2_highest_118 : decode cX2_highest 118 = .ok (.lload_n 2, 1) := by decide +kernel
theorem dX2_highest_119 : decode cX2_highest 119 = .ok (.l2i, 1) := by decide +kernel
theorem dX2_highest_113 : decode cX2_highest 113 = .ok (.iload 5, 2) := by decide +kernel
theorem dX2_highest_115 : decode cX2_highest 115 = .ok (.goto 5, 3) := by decide +kernel
theorem dX2_highest_105 : decode cX2_highest 105 = .ok (.iload 4, 2) := by decide +kernel
theorem dX2_highest_98 : decode cX2_highest 98 = .ok (.ldc 143, 2) := by decide +kernel
theorem w_904 : Cond.constant "QuarterWalks$Grid" 143 (-1000000) ∈ wAll := wI4 89 (by decide +kernel) (by decide +kernel)
theorem dX2_highest_29 : decode cX2_highest 29 = .ok (.aload_n 0, 1) := by decide +kernel
theorem dX2_highest_30 : decode cX2_highest 30 = .ok (.getfield 25, 3) := by decide +kernel
theorem dX2_highest_33 : decode cX2_highest 33 = .ok (.getfield 63, 3) := by decide +kernel
theorem dX2_highest_36 : decode cX2_highest 36 = .ok (.istore 7, 2) := by decide +kernel
theorem dX2_highest_38 : decode cX2_highest 38 = .ok (.iload 7, 2) := by decide +kernel
theorem dX2_highest_40 : decode cX2_highest 40 = .ok (.aload_n 0, 1) := by decide +kernel
theorem dX2_highest_41 : decode cX2_highest 41 = .ok (.getfield 25, 3) := by decide +kernel
theorem dX2_highest_44 : decode cX2_highest 44 = .ok (.getfield 69, 3) := by decide +kernel
theorem dX2_highest_47 : decode cX2_highest 47 = .ok (.if_icmp .gt 39, 3) := by decide +kernel
theorem dX2_highest_86 : decode cX2_highest 86 = .ok (.iinc 6 1, 3) := by decide +kernel
theorem dX2_highest_89 : decode cX2_highest 89 = .ok (.goto (-72), 3) := by decide +kernel
theorem dX2_highest_50 : decode cX2_highest 50 = .ok (.aload_n 0, 1) := by decide +kernel
theorem dX2_highest_51 : decode cX2_highest 51 = .ok (.iload 6, 2) := by decide +kernel
theorem dX2_highest_53 : decode cX2_highest 53 = .ok (.iload 7, 2) := by decide +kernel
theorem dX2_highest_55 : decode cX2_highest 55 = .ok (.invokevirtual 132, 3) := by decide +kernel
theorem dX2_highest_58 : decode cX2_highest 58 = .ok (.lload_n 2, 1) := by decide +kernel
theorem dX2_highest_59 : decode cX2_highest 59 = .ok (.lcmp, 1) := by decide +kernel
theorem dX2_highest_60 : decode cX2_highest 60 = .ok (.ifCond .le 20, 3) := by decide +kernel
theorem dX2_highest_80 : decode cX2_highest 80 = .ok (.iinc 7 1, 3) := by decide +kernel
theorem dX2_highest_83 : decode cX2_highest 83 = .ok (.goto (-45), 3) := by decide +kernel
theorem dX2_highest_63 : decode cX2_highest 63 = .ok (.aload_n 0, 1) := by decide +kernel
theorem dX2_highest_64 : decode cX2_highest 64 = .ok (.iload 6, 2) := by decide +kernel
theorem dX2_highest_66 : decode cX2_highest 66 = .ok (.iload 7, 2) := by decide +kernel
theorem dX2_highest_68 : decode cX2_highest 68 = .ok (.invokevirtual 132, 3) := by decide +kernel
theorem dX2_highest_71 : decode cX2_highest 71 = .ok (.lstore_n 2, 1) := by decide +kernel
theorem dX2_highest_72 : decode cX2_highest 72 = .ok (.iload 6, 2) := by decide +kernel
theorem dX2_highest_74 : decode cX2_highest 74 = .ok (.istore 4, 2) := by decide +kernel
theorem dX2_highest_76 : decode cX2_highest 76 = .ok (.iload 7, 2) := by decide +kernel
theorem dX2_highest_78 : decode cX2_highest 78 = .ok (.istore 5, 2) := by decide +kernel
theorem dX2_highest_120 : decode cX2_highest 120 = .ok (.ireturn, 1) := by decide +kernel
theorem dX2_highest_107 : decode cX2_highest 107 = .ok (.ireturn, 1) := by decide +kernel
theorem dX2_highest_100 : decode cX2_highest 100 = .ok (.ireturn, 1) := by decide +kernel
theorem dX2_filledCells_0 : decode cX2_filledCells 0 = .ok (.iconst 0, 1) := by decide +kernel
theorem dX2_filledCells_1 : decode cX2_filledCells 1 = .ok (.istore_n 1, 1) := by decide +kernel
theorem dX2_filledCells_2 : decode cX2_filledCells 2 = .ok (.aload_n 0, 1) := by decide +kernel
theorem dX2_filledCells_3 : decode cX2_filledCells 3 = .ok (.getfield 25, 3) := by decide +kernel
theorem dX2_filledCells_6 : decode cX2_filledCells 6 = .ok (.getfield 60, 3) := by decide +kernel
theorem dX2_filledCells_9 : decode cX2_filledCells 9 = .ok (.istore_n 2, 1) := by decide +kernel
theorem dX2_filledCells_10 : decode cX2_filledCells 10 = .ok (.iload_n 2, 1) := by decide +kernel
theorem dX2_filledCells_11 : decode cX2_filledCells 11 = .ok (.aload_n 0, 1) := by decide +kernel
theorem dX2_filledCells_12 : decode cX2_filledCells 12 = .ok (.getfield 25, 3) := by decide +kernel
theorem dX2_filledCells_15 : decode cX2_filledCells 15 = .ok (.getfield 66, 3) := by decide +kernel
theorem dX2_filledCells_18 : decode cX2_filledCells 18 = .ok (.if_icmp .gt 48, 3) := by decide +kernel
theorem dX2_filledCells_66 : decode cX2_filledCells 66 = .ok (.iload_n 1, 1) := by decide +kernel
theorem dX2_filledCells_21 : decode cX2_filledCells 21 = .ok (.aload_n 0, 1) := by decide +kernel
theorem dX2_filledCells_22 : decode cX2_filledCells 22 = .ok (.getfield 25, 3) := by decide +kernel
theorem dX2_filledCells_25 : decode cX2_filledCells 25 = .ok (.getfield 63, 3) := by decide +kernel
theorem dX2_filledCells_28 : decode cX2_filledCells 28 = .ok (.istore_n 3, 1) := by decide +kernel
theorem dX2_filledCells_29 : decode cX2_filledCells 29 = .ok (.iload_n 3, 1) := by decide +kernel
theorem dX2_filledCells_30 : decode cX2_filledCells 30 = .ok (.aload_n 0, 1) := by decide +kernel
theorem dX2_filledCells_31 : decode cX2_filledCells 31 = .ok (.getfield 25, 3) := by decide +kernel
theorem dX2_filledCells_34 : decode cX2_filledCells 34 = .ok (.getfield 69, 3) := by decide +kernel
theorem dX2_filledCells_37 : decode cX2_filledCells 37 = .ok (.if_icmp .gt 23, 3) := by decide +kernel
theorem dX2_filledCells_60 : decode cX2_filledCells 60 = .ok (.iinc 2 1, 3) := by decide +kernel
theorem dX2_filledCells_63 : decode cX2_filledCells 63 = .ok (.goto (-53), 3) := by decide +kernel
theorem dX2_filledCells_40 : decode cX2_filledCells 40 = .ok (.aload_n 0, 1) := by decide +kernel
theorem dX2_filledCells_41 : decode cX2_filledCells 41 = .ok (.iload_n 2, 1) := by decide +kernel
theorem dX2_filledCells_42 : decode cX2_filledCells 42 = .ok (.iload_n 3, 1) := by decide +kernel
theorem dX2_filledCells_43 : decode cX2_filledCells 43 = .ok (.invokevirtual 132, 3) := by decide +kernel
theorem dX2_filledCells_46 : decode cX2_filledCells 46 = .ok (.lconst 0, 1) := by decide +kernel
theorem dX2_filledCells_47 : decode cX2_filledCells 47 = .ok (.lcmp, 1) := by decide +kernel
theorem dX2_filledCells_48 : decode cX2_filledCells 48 = .ok (.ifCond .eq 6, 3) := by decide +kernel
theorem dX2_filledCells_54 : decode cX2_filledCells 54 = .ok (.iinc 3 1, 3) := by decide +kernel
theorem dX2_filledCells_57 : decode cX2_filledCells 57 = .ok (.goto (-28), 3) := by decide +kernel
theorem dX2_filledCells_51 : decode cX2_filledCells 51 = .ok (.iinc 1 1, 3) := by decide +kernel
theorem dX2_filledCells_67 : decode cX2_filledCells 67 = .ok (.ireturn, 1) := by decide +kernel
theorem dX2_stepsInside_0 : decode cX2_stepsInside 0 = .ok (.iconst 0, 1) := by decide +kernel
theorem dX2_stepsInside_1 : decode cX2_stepsInside 1 = .ok (.istore_n 2, 1) := by decide +kernel
theorem dX2_stepsInside_2 : decode cX2_stepsInside 2 = .ok (.iconst 0, 1) := by decide +kernel
theorem dX2_stepsInside_3 : decode cX2_stepsInside 3 = .ok (.istore_n 3, 1) := by decide +kernel
theorem dX2_stepsInside_4 : decode cX2_stepsInside 4 = .ok (.iload_n 3, 1) := by decide +kernel
theorem dX2_stepsInside_5 : decode cX2_stepsInside 5 = .ok (.bipush 8, 2) := by decide +kernel
theorem dX2_stepsInside_7 : decode cX2_stepsInside 7 = .ok (.if_icmp .ge 35, 3) := by decide +kernel
theorem dX2_stepsInside_10 : decode cX2_stepsInside 10 = .ok (.iload_n 0, 1) := by decide +kernel
theorem dX2_stepsInside_11 : decode cX2_stepsInside 11 = .ok (.getstatic 97, 3) := by decide +kernel
theorem dX2_stepsInside_14 : decode cX2_stepsInside 14 = .ok (.iload_n 3, 1) := by decide +kernel
theorem dX2_stepsInside_15 : decode cX2_stepsInside 15 = .ok (.iaload, 1) := by decide +kernel
theorem dX2_stepsInside_16 : decode cX2_stepsInside 16 = .ok (.iadd, 1) := by decide +kernel
theorem dX2_stepsInside_17 : decode cX2_stepsInside 17 = .ok (.ifCond .lt 19, 3) := by decide +kernel
theorem dX2_stepsInside_36 : decode cX2_stepsInside 36 = .ok (.iinc 3 1, 3) := by decide +kernel
theorem dX2_stepsInside_39 : decode cX2_stepsInside 39 = .ok (.goto (-35), 3) := by decide +kernel
theorem dX2_stepsInside_20 : decode cX2_stepsInside 20 = .ok (.iload_n 1, 1) := by decide +kernel
theorem dX2_stepsInside_21 : decode cX2_stepsInside 21 = .ok (.getstatic 100, 3) := by decide +kernel
theorem dX2_stepsInside_24 : decode cX2_stepsInside 24 = .ok (.iload_n 3, 1) := by decide +kernel
theorem dX2_stepsInside_25 : decode cX2_stepsInside 25 = .ok (.iaload, 1) := by decide +kernel
theorem dX2_stepsInside_26 : decode cX2_stepsInside 26 = .ok (.iadd, 1) := by decide +kernel
theorem dX2_stepsInside_27 : decode cX2_stepsInside 27 = .ok (.ifCond .lt 9, 3) := by decide +kernel
theorem dX2_stepsInside_30 : decode cX2_stepsInside 30 = .ok (.iload_n 2, 1) := by decide +kernel
theorem dX2_stepsInside_31 : decode cX2_stepsInside 31 = .ok (.iconst 1, 1) := by decide +kernel
theorem dX2_stepsInside_32 : decode cX2_stepsInside 32 = .ok (.iload_n 3, 1) := by decide +kernel
theorem dX2_stepsInside_33 : decode cX2_stepsInside 33 = .ok (.ishl, 1) := by decide +kernel
theorem dX2_stepsInside_34 : decode cX2_stepsInside 34 = .ok (.ior, 1) := by decide +kernel
theorem dX2_stepsInside_35 : decode cX2_stepsInside 35 = .ok (.istore_n 2, 1) := by decide +kernel
theorem dX2_stepsInside_42 : decode cX2_stepsInside 42 = .ok (.iload_n 2, 1) := by decide +kernel
theorem dX2_stepsInside_43 : decode cX2_stepsInside 43 = .ok (.ireturn, 1) := by decide +kernel
theorem dX2_staying_0 : decode cX2_staying 0 = .ok (.iconst 0, 1) := by decide +kernel
theorem dX2_staying_1 : decode cX2_staying 1 = .ok (.istore_n 1, 1) := by decide +kernel
theorem dX2_staying_2 : decode cX2_staying 2 = .ok (.aload_n 0, 1) := by decide +kernel
theorem dX2_staying_3 : decode cX2_staying 3 = .ok (.getfield 25, 3) := by decide +kernel
theorem dX2_staying_6 : decode cX2_staying 6 = .ok (.getfield 60, 3) := by decide +kernel
theorem dX2_staying_9 : decode cX2_staying 9 = .ok (.istore_n 2, 1) := by decide +kernel
theorem dX2_staying_10 : decode cX2_staying 10 = .ok (.iload_n 2, 1) := by decide +kernel
theorem dX2_staying_11 : decode cX2_staying 11 = .ok (.aload_n 0, 1) := by decide +kernel
theorem dX2_staying_12 : decode cX2_staying 12 = .ok (.getfield 25, 3) := by decide +kernel
theorem dX2_staying_15 : decode cX2_staying 15 = .ok (.getfield 66, 3) := by decide +kernel
theorem dX2_staying_18 : decode cX2_staying 18 = .ok (.if_icmp .gt 53, 3) := by decide +kernel
theorem dX2_staying_71 : decode cX2_staying 71 = .ok (.iload_n 1, 1) := by decide +kernel
theorem dX2_staying_21 : decode cX2_staying 21 = .ok (.aload_n 0, 1) := by decide +kernel
theorem dX2_staying_22 : decode cX2_staying 22 = .ok (.getfield 25, 3) := by decide +kernel
theorem dX2_staying_25 : decode cX2_staying 25 = .ok (.getfield 63, 3) := by decide +kernel
theorem dX2_staying_28 : decode cX2_staying 28 = .ok (.istore_n 3, 1) := by decide +kernel
theorem dX2_staying_29 : decode cX2_staying 29 = .ok (.iload_n 3, 1) := by decide +kernel
theorem dX2_staying_30 : decode cX2_staying 30 = .ok (.aload_n 0, 1) := by decide +kernel
theorem dX2_staying_31 : decode cX2_staying 31 = .ok (.getfield 25, 3) := by decide +kernel
theorem dX2_staying_34 : decode cX2_staying 34 = .ok (.getfield 69, 3) := by decide +kernel
theorem dX2_staying_37 : decode cX2_staying 37 = .ok (.if_icmp .gt 28, 3) := by decide +kernel
theorem dX2_staying_65 : decode cX2_staying 65 = .ok (.iinc 2 1, 3) := by decide +kernel
theorem dX2_staying_68 : decode cX2_staying 68 = .ok (.goto (-58), 3) := by decide +kernel
theorem dX2_staying_40 : decode cX2_staying 40 = .ok (.aload_n 0, 1) := by decide +kernel
theorem dX2_staying_41 : decode cX2_staying 41 = .ok (.iload_n 2, 1) := by decide +kernel
theorem dX2_staying_42 : decode cX2_staying 42 = .ok (.iload_n 3, 1) := by decide +kernel
theorem dX2_staying_43 : decode cX2_staying 43 = .ok (.invokevirtual 132, 3) := by decide +kernel
theorem dX2_staying_46 : decode cX2_staying 46 = .ok (.lconst 0, 1) := by decide +kernel
theorem dX2_staying_47 : decode cX2_staying 47 = .ok (.lcmp, 1) := by decide +kernel
theorem dX2_staying_48 : decode cX2_staying 48 = .ok (.ifCond .eq 11, 3) := by decide +kernel
theorem dX2_staying_59 : decode cX2_staying 59 = .ok (.iinc 3 1, 3) := by decide +kernel
theorem dX2_staying_62 : decode cX2_staying 62 = .ok (.goto (-33), 3) := by decide +kernel
theorem dX2_staying_51 : decode cX2_staying 51 = .ok (.iload_n 1, 1) := by decide +kernel
theorem dX2_staying_52 : decode cX2_staying 52 = .ok (.iload_n 2, 1) := by decide +kernel
theorem dX2_staying_53 : decode cX2_staying 53 = .ok (.iload_n 3, 1) := by decide +kernel
theorem dX2_staying_54 : decode cX2_staying 54 = .ok (.invokestatic 144, 3) := by decide +kernel
theorem w_1003 : Cond.methodLink "QuarterWalks$Grid" 144 yX2_stepsInside ∈ wAll := wI4 188 (by decide +kernel) (by decide +kernel)
theorem mk_X2_stepsInside : mk yX2_stepsInside 2 := ⟨by decide +kernel, w_100⟩
theorem w_1004 : Cond.static yX2_stepsInside ∈ wAll := wI4 189 (by decide +kernel) (by decide +kernel)
theorem w_1005 : Cond.code yX2_stepsInside cX2_stepsInside 4 (some .int) ∈ wAll := wI4 190 (by decide +kernel) (by decide +kernel)
theorem dX2_staying_57 : decode cX2_staying 57 = .ok (.ior, 1) := by decide +kernel
theorem dX2_staying_58 : decode cX2_staying 58 = .ok (.istore_n 1, 1) := by decide +kernel
theorem dX2_staying_72 : decode cX2_staying 72 = .ok (.ireturn, 1) := by decide +kernel
theorem dX2_copyQuarter_0 : decode cX2_copyQuarter 0 = .ok (.iconst 0, 1) := by decide +kernel
theorem dX2_copyQuarter_1 : decode cX2_copyQuarter 1 = .ok (.istore_n 2, 1) := by decide +kernel
theorem dX2_copyQuarter_2 : decode cX2_copyQuarter 2 = .ok (.iload_n 2, 1) := by decide +kernel
theorem dX2_copyQuarter_3 : decode cX2_copyQuarter 3 = .ok (.bipush 70, 2) := by decide +kernel
theorem dX2_copyQuarter_5 : decode cX2_copyQuarter 5 = .ok (.if_icmp .ge 48, 3) := by decide +kernel
theorem dX2_copyQuarter_8 : decode cX2_copyQuarter 8 = .ok (.iconst 0, 1) := by decide +kernel
theorem dX2_copyQuarter_9 : decode cX2_copyQuarter 9 = .ok (.istore_n 3, 1) := by decide +kernel
theorem dX2_copyQuarter_10 : decode cX2_copyQuarter 10 = .ok (.iload_n 3, 1) := by decide +kernel
theorem dX2_copyQuarter_11 : decode cX2_copyQuarter 11 = .ok (.bipush 70, 2) := by decide +kernel
theorem dX2_copyQuarter_13 : decode cX2_copyQuarter 13 = .ok (.if_icmp .ge 34, 3) := by decide +kernel
theorem dX2_copyQuarter_16 : decode cX2_copyQuarter 16 = .ok (.iload_n 2, 1) := by decide +kernel
theorem dX2_copyQuarter_17 : decode cX2_copyQuarter 17 = .ok (.bipush 70, 2) := by decide +kernel
theorem dX2_copyQuarter_19 : decode cX2_copyQuarter 19 = .ok (.imul, 1) := by decide +kernel
theorem dX2_copyQuarter_20 : decode cX2_copyQuarter 20 = .ok (.iload_n 3, 1) := by decide +kernel
theorem dX2_copyQuarter_21 : decode cX2_copyQuarter 21 = .ok (.iadd, 1) := by decide +kernel
theorem dX2_copyQuarter_22 : decode cX2_copyQuarter 22 = .ok (.aload_n 1, 1) := by decide +kernel
theorem dX2_copyQuarter_23 : decode cX2_copyQuarter 23 = .ok (.arraylength, 1) := by decide +kernel
theorem dX2_copyQuarter_24 : decode cX2_copyQuarter 24 = .ok (.if_icmp .ge 23, 3) := by decide +kernel
theorem dX2_copyQuarter_27 : decode cX2_copyQuarter 27 = .ok (.aload_n 1, 1) := by decide +kernel
theorem dX2_copyQuarter_28 : decode cX2_copyQuarter 28 = .ok (.iload_n 2, 1) := by decide +kernel
theorem dX2_copyQuarter_29 : decode cX2_copyQuarter 29 = .ok (.bipush 70, 2) := by decide +kernel
theorem dX2_copyQuarter_31 : decode cX2_copyQuarter 31 = .ok (.imul, 1) := by decide +kernel
theorem dX2_copyQuarter_32 : decode cX2_copyQuarter 32 = .ok (.iload_n 3, 1) := by decide +kernel
theorem dX2_copyQuarter_33 : decode cX2_copyQuarter 33 = .ok (.iadd, 1) := by decide +kernel
theorem dX2_copyQuarter_34 : decode cX2_copyQuarter 34 = .ok (.aload_n 0, 1) := by decide +kernel
theorem dX2_copyQuarter_35 : decode cX2_copyQuarter 35 = .ok (.iload_n 2, 1) := by decide +kernel
theorem dX2_copyQuarter_36 : decode cX2_copyQuarter 36 = .ok (.iload_n 3, 1) := by decide +kernel
theorem dX2_copyQuarter_37 : decode cX2_copyQuarter 37 = .ok (.invokevirtual 132, 3) := by decide +kernel
theorem dX2_copyQuarter_40 : decode cX2_copyQuarter 40 = .ok (.lastore, 1) := by decide +kernel
theorem dX2_copyQuarter_41 : decode cX2_copyQuarter 41 = .ok (.iinc 3 1, 3) := by decide +kernel
theorem dX2_copyQuarter_44 : decode cX2_copyQuarter 44 = .ok (.goto (-34), 3) := by decide +kernel
theorem dX2_copyQuarter_47 : decode cX2_copyQuarter 47 = .ok (.iinc 2 1, 3) := by decide +kernel
theorem dX2_copyQuarter_50 : decode cX2_copyQuarter 50 = .ok (.goto (-48), 3) := by decide +kernel
theorem dX2_copyQuarter_53 : decode cX2_copyQuarter 53 = .ok (.return_, 1) := by decide +kernel
theorem dX2_matched_0 : decode cX2_matched 0 = .ok (.lconst 0, 1) := by decide +kernel
theorem dX2_matched_1 : decode cX2_matched 1 = .ok (.lstore_n 2, 1) := by decide +kernel
theorem dX2_matched_2 : decode cX2_matched 2 = .ok (.iconst 0, 1) := by decide +kernel
theorem dX2_matched_3 : decode cX2_matched 3 = .ok (.istore 4, 2) := by decide +kernel
theorem dX2_matched_5 : decode cX2_matched 5 = .ok (.iload 4, 2) := by decide +kernel
theorem dX2_matched_7 : decode cX2_matched 7 = .ok (.bipush 70, 2) := by decide +kernel
theorem dX2_matched_9 : decode cX2_matched 9 = .ok (.if_icmp .ge 63, 3) := by decide +kernel
theorem dX2_matched_12 : decode cX2_matched 12 = .ok (.iconst 0, 1) := by decide +kernel
theorem dX2_matched_13 : decode cX2_matched 13 = .ok (.istore 5, 2) := by decide +kernel
theorem dX2_matched_15 : decode cX2_matched 15 = .ok (.iload 5, 2) := by decide +kernel
theorem dX2_matched_17 : decode cX2_matched 17 = .ok (.bipush 70, 2) := by decide +kernel
theorem dX2_matched_19 : decode cX2_matched 19 = .ok (.if_icmp .ge 47, 3) := by decide +kernel
theorem dX2_matched_22 : decode cX2_matched 22 = .ok (.iload 4, 2) := by decide +kernel
theorem dX2_matched_24 : decode cX2_matched 24 = .ok (.bipush 70, 2) := by decide +kernel
theorem dX2_matched_26 : decode cX2_matched 26 = .ok (.imul, 1) := by decide +kernel
theorem dX2_matched_27 : decode cX2_matched 27 = .ok (.iload 5, 2) := by decide +kernel
theorem dX2_matched_29 : decode cX2_matched 29 = .ok (.iadd, 1) := by decide +kernel
theorem dX2_matched_30 : decode cX2_matched 30 = .ok (.aload_n 1, 1) := by decide +kernel
theorem dX2_matched_31 : decode cX2_matched 31 = .ok (.arraylength, 1) := by decide +kernel
theorem dX2_matched_32 : decode cX2_matched 32 = .ok (.if_icmp .ge 34, 3) := by decide +kernel
theorem dX2_matched_35 : decode cX2_matched 35 = .ok (.lload_n 2, 1) := by decide +kernel
theorem dX2_matched_36 : decode cX2_matched 36 = .ok (.aload_n 1, 1) := by decide +kernel
theorem dX2_matched_37 : decode cX2_matched 37 = .ok (.iload 4, 2) := by decide +kernel
theorem dX2_matched_39 : decode cX2_matched 39 = .ok (.bipush 70, 2) := by decide +kernel
theorem dX2_matched_41 : decode cX2_matched 41 = .ok (.imul, 1) := by decide +kernel
theorem dX2_matched_42 : decode cX2_matched 42 = .ok (.iload 5, 2) := by decide +kernel
theorem dX2_matched_44 : decode cX2_matched 44 = .ok (.iadd, 1) := by decide +kernel
theorem dX2_matched_45 : decode cX2_matched 45 = .ok (.laload, 1) := by decide +kernel
theorem dX2_matched_46 : decode cX2_matched 46 = .ok (.aload_n 0, 1) := by decide +kernel
theorem dX2_matched_47 : decode cX2_matched 47 = .ok (.iload 4, 2) := by decide +kernel
theorem dX2_matched_49 : decode cX2_matched 49 = .ok (.iload 5, 2) := by decide +kernel
theorem dX2_matched_51 : decode cX2_matched 51 = .ok (.invokevirtual 132, 3) := by decide +kernel
theorem dX2_matched_54 : decode cX2_matched 54 = .ok (.invokestatic 147, 3) := by decide +kernel
theorem dX2_matched_57 : decode cX2_matched 57 = .ok (.i2l, 1) := by decide +kernel
theorem dX2_matched_58 : decode cX2_matched 58 = .ok (.ladd, 1) := by decide +kernel
theorem dX2_matched_59 : decode cX2_matched 59 = .ok (.lstore_n 2, 1) := by decide +kernel
theorem dX2_matched_60 : decode cX2_matched 60 = .ok (.iinc 5 1, 3) := by decide +kernel
theorem dX2_matched_63 : decode cX2_matched 63 = .ok (.goto (-48), 3) := by decide +kernel
theorem dX2_matched_66 : decode cX2_matched 66 = .ok (.iinc 4 1, 3) := by decide +kernel
theorem dX2_matched_69 : decode cX2_matched 69 = .ok (.goto (-64), 3) := by decide +kernel
theorem dX2_matched_72 : decode cX2_matched 72 = .ok (.lload_n 2, 1) := by decide +kernel
theorem dX2_matched_73 : decode cX2_matched 73 = .ok (.invokestatic 125, 3) := by decide +kernel
theorem dX2_matched_76 : decode cX2_matched 76 = .ok (.ireturn, 1) := by decide +kernel
abbrev rm_s_X1_holdsk : Room := { frames := 0, cells := 0, slots := 0, locals := 0 }
set_option maxRecDepth 100000 in
set_option maxHeartbeats 4000000 in
theorem s_X1_holdsk (l : Launch) (D : va_G) (G : Nat → Nat) (b0 : Nat) (τ : Nat → Nat) (f : hM) (t : TI G 9 τ f) (u0 : Nat) (hu0 : τ u0 = 23) (u1 : Int32) (hu1 : iv u1 (-2147483648) 2147483647) (u2 : Int32) (hu2 : iv u2 (-2147483648) 2147483647) (bl : Int32) (hbl : iv bl (-60) 69) (k_u0_0 : atp f u0 (fd 0 (.int bl))) (bb : Int32) (hbb : iv bb (-60) 69) (k_u0_1 : atp f u0 (fd 1 (.int bb))) (br : Int32) (hbr : iv br (-60) 69) (k_u0_2 : atp f u0 (fd 2 (.int br))) (bt : Int32) (hbt : iv bt (-60) 69) (k_u0_3 : atp f u0 (fd 3 (.int bt))) : mI l yX1_holds cX1_holds 3 (.boolean) rm_s_X1_holdsk D G b0 f [.ref u0, .int u1, .int u2] (fun r f1 => iv r 0 1 ∧ TI G 9 τ f1 ∧ Fr [] τ f f1 ∧ (r.toInt ≠ 0 → bl.toInt ≤ u1.toInt ∧ u1.toInt ≤ br.toInt ∧ bb.toInt ≤ u2.toInt ∧ u2.toInt ≤ bt.toInt)) := by
  refine met2 (own := RX1) (by decide) rfl (Nat.le_of_ble_eq_true rfl) ?_
  intro p e s m args below meth c ls Q hQ C hr hini hl h
  have hl : lv_has ls 3 [(0, .ref u0), (1, .int u1), (2, .int u2)] := hl
  obtain ⟨hx, hb, hml, hown, hts, hE0, hlk⟩ := id C
  have o := Fr.rf [] τ f
  refine lv_iload_n hx hb dX1_holds_0 rfl (lv_at hl 1 rfl) ?_
  refine lv_aload_n hx hb dX1_holds_1 rfl (lv_at hl 0 rfl) ?_
  refine t_getfd C h t hu0 (by decide) wf_23 (v := .int bl) k_u0_0 fl_X1_7 dX1_holds_2 ?_
  refine lv_icmp_lt (tgt := 36) hx hb dX1_holds_5 (by decide) (fun c1 => ?_) (fun c1 => ?_)
  · have c2 : u1.toInt < bl.toInt := Int32.lt_iff_toInt_lt.mp c1
    have i3 : iv u1 (-2147483648) 68 := iv_Ll c2 hu1 hbl (by decide)
    refine lv_iconst (v := 0) hx hb dX1_holds_36 (by decide) ?_
    exact u_zret C h hr hQ ⟨by decide, by decide⟩ (⟨⟨by decide, by decide⟩, t, o, (fun h_ => absurd h_ (by decide))⟩) (Nat.le_of_ble_eq_true rfl) (Nat.le_of_ble_eq_true rfl) dX1_holds_37
  · have c4 : bl.toInt ≤ u1.toInt := Int32.le_iff_toInt_le.mp (iv_nlt c1)
    have i5 : iv u1 (-60) 2147483647 := iv_Er c4 hbl hu1 (by decide)
    refine lv_iload_n hx hb dX1_holds_8 rfl (lv_at hl 1 rfl) ?_
    refine lv_aload_n hx hb dX1_holds_9 rfl (lv_at hl 0 rfl) ?_
    refine t_getfd C h t hu0 (by decide) wf_23 (v := .int br) k_u0_2 fl_X1_13 dX1_holds_10 ?_
    refine lv_icmp_gt (tgt := 36) hx hb dX1_holds_13 (by decide) (fun c6 => ?_) (fun c6 => ?_)
    · have c7 : br.toInt < u1.toInt := Int32.lt_iff_toInt_lt.mp c6
      have i8 : iv u1 (-59) 2147483647 := iv_Lr c7 hbr i5 (by decide)
      refine lv_iconst (v := 0) hx hb dX1_holds_36 (by decide) ?_
      exact u_zret C h hr hQ ⟨by decide, by decide⟩ (⟨⟨by decide, by decide⟩, t, o, (fun h_ => absurd h_ (by decide))⟩) (Nat.le_of_ble_eq_true rfl) (Nat.le_of_ble_eq_true rfl) dX1_holds_37
    · have c9 : u1.toInt ≤ br.toInt := Int32.le_iff_toInt_le.mp (iv_nlt c6)
      have i10 : iv u1 (-60) 69 := iv_El c9 i5 hbr (by decide)
      refine lv_iload_n hx hb dX1_holds_16 rfl (lv_at hl 2 rfl) ?_
      refine lv_aload_n hx hb dX1_holds_17 rfl (lv_at hl 0 rfl) ?_
      refine t_getfd C h t hu0 (by decide) wf_23 (v := .int bb) k_u0_1 fl_X1_16 dX1_holds_18 ?_
      refine lv_icmp_lt (tgt := 36) hx hb dX1_holds_21 (by decide) (fun c11 => ?_) (fun c11 => ?_)
      · have c12 : u2.toInt < bb.toInt := Int32.lt_iff_toInt_lt.mp c11
        have i13 : iv u2 (-2147483648) 68 := iv_Ll c12 hu2 hbb (by decide)
        refine lv_iconst (v := 0) hx hb dX1_holds_36 (by decide) ?_
        exact u_zret C h hr hQ ⟨by decide, by decide⟩ (⟨⟨by decide, by decide⟩, t, o, (fun h_ => absurd h_ (by decide))⟩) (Nat.le_of_ble_eq_true rfl) (Nat.le_of_ble_eq_true rfl) dX1_holds_37
      · have c14 : bb.toInt ≤ u2.toInt := Int32.le_iff_toInt_le.mp (iv_nlt c11)
        have i15 : iv u2 (-60) 2147483647 := iv_Er c14 hbb hu2 (by decide)
        refine lv_iload_n hx hb dX1_holds_24 rfl (lv_at hl 2 rfl) ?_
        refine lv_aload_n hx hb dX1_holds_25 rfl (lv_at hl 0 rfl) ?_
        refine t_getfd C h t hu0 (by decide) wf_23 (v := .int bt) k_u0_3 fl_X1_19 dX1_holds_26 ?_
        refine lv_icmp_gt (tgt := 36) hx hb dX1_holds_29 (by decide) (fun c16 => ?_) (fun c16 => ?_)
        · have c17 : bt.toInt < u2.toInt := Int32.lt_iff_toInt_lt.mp c16
          have i18 : iv u2 (-59) 2147483647 := iv_Lr c17 hbt i15 (by decide)
          refine lv_iconst (v := 0) hx hb dX1_holds_36 (by decide) ?_
          exact u_zret C h hr hQ ⟨by decide, by decide⟩ (⟨⟨by decide, by decide⟩, t, o, (fun h_ => absurd h_ (by decide))⟩) (Nat.le_of_ble_eq_true rfl) (Nat.le_of_ble_eq_true rfl) dX1_holds_37
        · have c19 : u2.toInt ≤ bt.toInt := Int32.le_iff_toInt_le.mp (iv_nlt c16)
          have i20 : iv u2 (-60) 69 := iv_El c19 i15 hbt (by decide)
          refine lv_iconst (v := 1) hx hb dX1_holds_32 (by decide) ?_
          refine lv_goto (tgt := 37) hx hb dX1_holds_33 (by decide) ?_
          exact u_zret C h hr hQ ⟨by decide, by decide⟩ (⟨⟨by decide, by decide⟩, t, o, (fun _ => ⟨(by omega), (by omega), (by omega), (by omega)⟩)⟩) (Nat.le_of_ble_eq_true rfl) (Nat.le_of_ble_eq_true rfl) dX1_holds_37
abbrev rm_s_X2_cell : Room := { frames := 0, cells := 0, slots := 0, locals := 0 }
set_option maxRecDepth 100000 in
set_option maxHeartbeats 4000000 in
theorem s_X2_cell (l : Launch) (D : va_G) (G : Nat → Nat) (b0 : Nat) (τ : Nat → Nat) (f : hM) (t : TI G 9 τ f) (u0 : Nat) (hu0 : τ u0 = 20) (u1 : Int32) (hu1 : iv u1 (-131) 131) (u2 : Int32) (hu2 : iv u2 (-131) 131) (sx : Int32) (hsx : iv sx 0 9) (k_u0_9 : atp f u0 (fd 9 (.int sx))) (sy : Int32) (hsy : iv sy 0 9) (k_u0_10 : atp f u0 (fd 10 (.int sy))) : mI l yX2_cell cX2_cell 3 (.int) rm_s_X2_cell D G b0 f [.ref u0, .int u1, .int u2] (fun r f1 => iv r (-9796) 23808 ∧ TI G 9 τ f1 ∧ Fr [] τ f f1 ∧ (r.toInt = (u1.toInt - sx.toInt + 61) * 123 + (u2.toInt - sy.toInt) + 61)) := by
  refine met2 (own := RX2) (by decide) rfl (Nat.le_of_ble_eq_true rfl) ?_
  intro p e s m args below meth c ls Q hQ C hr hini hl h
  have hl : lv_has ls 3 [(0, .ref u0), (1, .int u1), (2, .int u2)] := hl
  obtain ⟨hx, hb, hml, hown, hts, hE0, hlk⟩ := id C
  have o := Fr.rf [] τ f
  refine lv_iload_n hx hb dX2_cell_0 rfl (lv_at hl 1 rfl) ?_
  refine lv_aload_n hx hb dX2_cell_1 rfl (lv_at hl 0 rfl) ?_
  refine t_getfd C h t hu0 (by decide) wf_20 (v := .int sx) k_u0_9 fl_X2_55 dX2_cell_2 ?_
  refine i_sub hx hb dX2_cell_5 hu1 hsx (lo := (-140)) (hi := 131) (by decide) (fun z1 ez1 mz1 iz1 => ?_)
  refine lv_bipush (v := 61) hx hb dX2_cell_6 (by decide) ?_
  refine i_addk hx hb dX2_cell_8 iz1 (k := 61) rfl (lo := (-79)) (hi := 192) (by decide) (fun z2 ez2 mz2 iz2 => ?_)
  refine lv_bipush (v := 123) hx hb dX2_cell_9 (by decide) ?_
  refine i_mulc hx hb dX2_cell_11 iz2 (k := 123) rfl (lo := (-9717)) (hi := 23616) (by decide) (fun z3 ez3 mz3 iz3 => ?_)
  refine lv_iload_n hx hb dX2_cell_12 rfl (lv_at hl 2 rfl) ?_
  refine i_add hx hb dX2_cell_13 iz3 hu2 (lo := (-9848)) (hi := 23747) (by decide) (fun z4 ez4 mz4 iz4 => ?_)
  refine lv_aload_n hx hb dX2_cell_14 rfl (lv_at hl 0 rfl) ?_
  refine t_getfd C h t hu0 (by decide) wf_20 (v := .int sy) k_u0_10 fl_X2_59 dX2_cell_15 ?_
  refine i_sub hx hb dX2_cell_18 iz4 hsy (lo := (-9857)) (hi := 23747) (by decide) (fun z5 ez5 mz5 iz5 => ?_)
  refine lv_bipush (v := 61) hx hb dX2_cell_19 (by decide) ?_
  refine i_addk hx hb dX2_cell_21 iz5 (k := 61) rfl (lo := (-9796)) (hi := 23808) (by decide) (fun z6 ez6 mz6 iz6 => ?_)
  exact u_iret C h hr hQ (⟨iz6, t, o, (by omega)⟩) (Nat.le_of_ble_eq_true rfl) (Nat.le_of_ble_eq_true rfl) dX2_cell_22
abbrev rm_s_X2_wipe : Room := { frames := 1, cells := 0, slots := 0, locals := 22 }
set_option maxRecDepth 100000 in
set_option maxHeartbeats 4000000 in
theorem s_X2_wipe (l : Launch) (D : va_G) (G : Nat → Nat) (b0 : Nat) (τ : Nat → Nat) (f : hM) (t : TI G 9 τ f) (u0 : Nat) (hu0 : τ u0 = 20) (rq mq : Nat) (hGJ : GJ τ f u0 rq mq) : mV l yX2_wipe cX2_wipe 4 rm_s_X2_wipe D G b0 f [.ref u0] (fun f1 => TI G 9 τ f1 ∧ Fr [21] τ f f1) := by
  refine met2 (own := RX2) (by decide) rfl (Nat.le_of_ble_eq_true rfl) ?_
  intro p e s m args below meth c ls Q hQ C hr hini hl h
  have hl : lv_has ls 4 [(0, .ref u0)] := hl
  obtain ⟨hx, hb, hml, hown, hts, hE0, hlk⟩ := id C
  have o := Fr.rf [21] τ f
  obtain ⟨sx, sy, rl, rb, rr, rt, ml, mb, mr, mt, ⟨trq, tmq⟩, ⟨kg3, kg2, ksx, ksy⟩, ⟨krl, krb, krr, krt⟩, ⟨kml, kmb, kmr, kmt⟩, ⟨isx, isy, irl, irb, irr, irt, iml, imb, imr, imt⟩, ⟨gr1, gr2, gr3, gr4⟩, ⟨gr5, gr6, gr7, gr8⟩⟩ := hGJ
  have L8 : ∀ (n8 : Nat) (ls : Array Slot) (f_8 : hM) (H : Heap) (locs : List Loc) (v8_1 : Int32), 70 - v8_1.toInt < (n8 : Int) → lv_has ls 4 [(0, .ref u0), (1, .int v8_1)] → hw D b0 s.heap f_8 H locs → TI G 9 τ f_8 → Fr [21] τ f f_8 → iv v8_1 (-60) 70 → atp f_8 u0 (fd 3 (.ref rq)) → atp f_8 u0 (fd 2 (.ref mq)) → atp f_8 u0 (fd 9 (.int sx)) → atp f_8 u0 (fd 10 (.int sy)) → atp f_8 rq (fd 0 (.int rl)) → atp f_8 rq (fd 1 (.int rb)) → atp f_8 rq (fd 2 (.int rr)) → atp f_8 rq (fd 3 (.int rt)) → atp f_8 mq (fd 0 (.int ml)) → atp f_8 mq (fd 1 (.int mb)) → atp f_8 mq (fd 2 (.int mr)) → atp f_8 mq (fd 3 (.int mt)) → rl.toInt ≤ v8_1.toInt → W p l e rm_s_X2_wipe s m args below meth c H locs 0 0 Q (F0 m 8 ls []) := by
    intro n8
    induction n8 with
    | zero => intro ls f_8 H locs v8_1 hm8 hl h t_8 o_8 iv8_1 k8_u0_3 k8_u0_2 k8_u0_9 k8_u0_10 k8_rq_0 k8_rq_1 k8_rq_2 k8_rq_3 k8_mq_0 k8_mq_1 k8_mq_2 k8_mq_3 hv8_0; exact absurd hm8 (by omega)
    | succ n8 ih8 =>
      intro ls f_8 H locs v8_1 hm8 hl h t_8 o_8 iv8_1 k8_u0_3 k8_u0_2 k8_u0_9 k8_u0_10 k8_rq_0 k8_rq_1 k8_rq_2 k8_rq_3 k8_mq_0 k8_mq_1 k8_mq_2 k8_mq_3 hv8_0
      have L45 : ∀ (n45 : Nat) (ls : Array Slot) (f_45 : hM) (H : Heap) (locs : List Loc) (v45_2 : Int32) (v45_3 : Int32), 15020 - v45_3.toInt < (n45 : Int) → lv_has ls 4 [(0, .ref u0), (1, .int v8_1), (2, .int v45_2), (3, .int v45_3)] → hw D b0 s.heap f_45 H locs → TI G 9 τ f_45 → Fr [21] τ f f_45 → iv v8_1 (-60) 69 → iv v45_2 (-20000) 15004 → iv v45_3 124 15020 → atp f_45 u0 (fd 3 (.ref rq)) → atp f_45 u0 (fd 2 (.ref mq)) → atp f_45 u0 (fd 9 (.int sx)) → atp f_45 u0 (fd 10 (.int sy)) → atp f_45 rq (fd 0 (.int rl)) → atp f_45 rq (fd 1 (.int rb)) → atp f_45 rq (fd 2 (.int rr)) → atp f_45 rq (fd 3 (.int rt)) → atp f_45 mq (fd 0 (.int ml)) → atp f_45 mq (fd 1 (.int mb)) → atp f_45 mq (fd 2 (.int mr)) → atp f_45 mq (fd 3 (.int mt)) → W p l e rm_s_X2_wipe s m args below meth c H locs 0 0 Q (F0 m 45 ls []) := by
        intro n45
        induction n45 with
        | zero => intro ls f_45 H locs v45_2 v45_3 hm45 hl h t_45 o_45 jv45_1 iv45_2 iv45_3 k45_u0_3 k45_u0_2 k45_u0_9 k45_u0_10 k45_rq_0 k45_rq_1 k45_rq_2 k45_rq_3 k45_mq_0 k45_mq_1 k45_mq_2 k45_mq_3; exact absurd hm45 (by omega)
        | succ n45 ih45 =>
          intro ls f_45 H locs v45_2 v45_3 hm45 hl h t_45 o_45 jv45_1 iv45_2 iv45_3 k45_u0_3 k45_u0_2 k45_u0_9 k45_u0_10 k45_rq_0 k45_rq_1 k45_rq_2 k45_rq_3 k45_mq_0 k45_mq_1 k45_mq_2 k45_mq_3
          refine lv_iload_n hx hb dX2_wipe_45 rfl (lv_at hl 3 rfl) ?_
          refine lv_iload_n hx hb dX2_wipe_46 rfl (lv_at hl 2 rfl) ?_
          refine lv_icmp_gt (tgt := 70) hx hb dX2_wipe_47 (by decide) (fun c1 => ?_) (fun c1 => ?_)
          · have c2 : v45_2.toInt < v45_3.toInt := Int32.lt_iff_toInt_lt.mp c1
            refine i_inc hx hb dX2_wipe_70 hl (k := 1) rfl jv45_1 rfl (lo := (-59)) (hi := 70) (by decide) (by decide) (lv' := fun v => [(1, .int v), (0, .ref u0), (2, .int v45_2), (3, .int v45_3)]) (fun _ => rfl) (fun z6 ls ez6 mz6 iz6 hl => ?_)
            refine lv_goto (tgt := 8) hx hb dX2_wipe_73 (by decide) ?_
            exact ih8 ls f_45 H locs z6 (show 70 - z6.toInt < _ by omega) (lv_cons hl 1 rfl (lv_cons hl 0 rfl (lv_nil hl))) h t_45 o_45 (iv_w iz6 (by decide)) k45_u0_3 k45_u0_2 k45_u0_9 k45_u0_10 k45_rq_0 k45_rq_1 k45_rq_2 k45_rq_3 k45_mq_0 k45_mq_1 k45_mq_2 k45_mq_3 (show rl.toInt ≤ z6.toInt by omega)
          · have c3 : v45_3.toInt ≤ v45_2.toInt := Int32.le_iff_toInt_le.mp (iv_nlt c1)
            have i4 : iv v45_3 124 15004 := iv_El c3 iv45_3 iv45_2 (by decide)
            have i5 : iv v45_2 124 15004 := iv_Er c3 iv45_3 iv45_2 (by decide)
            refine lv_aload_n hx hb dX2_wipe_50 rfl (lv_at hl 0 rfl) ?_
            refine t_getr (tq := 21) C h t_45 hu0 (by decide) wf_20 rfl fl_X2_11 dX2_wipe_51 (fun q7 tq7 => ?_)
            refine lv_iload_n hx hb dX2_wipe_54 rfl (lv_at hl 3 rfl) ?_
            refine lv_lconst (v := 0) hx hb dX2_wipe_55 (by decide) ?_
            refine t_last C h t_45 o_45 tq7 (by decide) (by decide) wf_21 fw_21 (iv_in i4 (by decide)) dX2_wipe_56 (fun f8 H locs h tf8 of8 hq => ?_)
            have k9 := atp.tg k45_u0_3 hq hu0 (by decide)
            have k10 := atp.tg k45_u0_2 hq hu0 (by decide)
            have k11 := atp.tg k45_u0_9 hq hu0 (by decide)
            have k12 := atp.tg k45_u0_10 hq hu0 (by decide)
            have k13 := atp.tg k45_rq_0 hq trq (by decide)
            have k14 := atp.tg k45_rq_1 hq trq (by decide)
            have k15 := atp.tg k45_rq_2 hq trq (by decide)
            have k16 := atp.tg k45_rq_3 hq trq (by decide)
            have k17 := atp.tg k45_mq_0 hq tmq (by decide)
            have k18 := atp.tg k45_mq_1 hq tmq (by decide)
            have k19 := atp.tg k45_mq_2 hq tmq (by decide)
            have k20 := atp.tg k45_mq_3 hq tmq (by decide)
            refine lv_aload_n hx hb dX2_wipe_57 rfl (lv_at hl 0 rfl) ?_
            refine t_getr (tq := 21) C h tf8 hu0 (by decide) wf_20 rfl fl_X2_15 dX2_wipe_58 (fun q21 tq21 => ?_)
            refine lv_iload_n hx hb dX2_wipe_61 rfl (lv_at hl 3 rfl) ?_
            refine lv_lconst (v := 0) hx hb dX2_wipe_62 (by decide) ?_
            refine t_last C h tf8 of8 tq21 (by decide) (by decide) wf_21 fw_21 (iv_in i4 (by decide)) dX2_wipe_63 (fun f22 H locs h tf22 of22 hq => ?_)
            have k23 := atp.tg k9 hq hu0 (by decide)
            have k24 := atp.tg k10 hq hu0 (by decide)
            have k25 := atp.tg k11 hq hu0 (by decide)
            have k26 := atp.tg k12 hq hu0 (by decide)
            have k27 := atp.tg k13 hq trq (by decide)
            have k28 := atp.tg k14 hq trq (by decide)
            have k29 := atp.tg k15 hq trq (by decide)
            have k30 := atp.tg k16 hq trq (by decide)
            have k31 := atp.tg k17 hq tmq (by decide)
            have k32 := atp.tg k18 hq tmq (by decide)
            have k33 := atp.tg k19 hq tmq (by decide)
            have k34 := atp.tg k20 hq tmq (by decide)
            refine i_inc hx hb dX2_wipe_64 hl (k := 3) rfl i4 rfl (lo := 125) (hi := 15005) (by decide) (by decide) (lv' := fun v => [(3, .int v), (0, .ref u0), (1, .int v8_1), (2, .int v45_2)]) (fun _ => rfl) (fun z35 ls ez35 mz35 iz35 hl => ?_)
            refine lv_goto (tgt := 45) hx hb dX2_wipe_67 (by decide) ?_
            exact ih45 ls f22 H locs v45_2 z35 (show 15020 - z35.toInt < _ by omega) (lv_cons hl 1 rfl (lv_cons hl 2 rfl (lv_cons hl 3 rfl (lv_cons hl 0 rfl (lv_nil hl))))) h tf22 of22 jv45_1 (iv_w i5 (by decide)) (iv_w iz35 (by decide)) k23 k24 k25 k26 k27 k28 k29 k30 k31 k32 k33 k34
      refine lv_iload_n hx hb dX2_wipe_8 rfl (lv_at hl 1 rfl) ?_
      refine lv_aload_n hx hb dX2_wipe_9 rfl (lv_at hl 0 rfl) ?_
      refine t_getfd C h t_8 hu0 (by decide) wf_20 (v := .ref rq) k8_u0_3 fl_X2_25 dX2_wipe_10 ?_
      refine t_getfd C h t_8 trq (by decide) wf_23 (v := .int rr) k8_rq_2 fl_X2_66 dX2_wipe_13 ?_
      refine lv_icmp_gt (tgt := 76) hx hb dX2_wipe_16 (by decide) (fun c36 => ?_) (fun c36 => ?_)
      · have c37 : rr.toInt < v8_1.toInt := Int32.lt_iff_toInt_lt.mp c36
        have i38 : iv v8_1 (-59) 70 := iv_Lr c37 irr iv8_1 (by decide)
        exact u_vret C h hr hQ (⟨t_8, o_8⟩) (Nat.le_of_ble_eq_true rfl) (Nat.le_of_ble_eq_true rfl) dX2_wipe_76
      · have c39 : v8_1.toInt ≤ rr.toInt := Int32.le_iff_toInt_le.mp (iv_nlt c36)
        have i40 : iv v8_1 (-60) 69 := iv_El c39 iv8_1 irr (by decide)
        refine lv_aload_n hx hb dX2_wipe_19 rfl (lv_at hl 0 rfl) ?_
        refine lv_iload_n hx hb dX2_wipe_20 rfl (lv_at hl 1 rfl) ?_
        refine lv_aload_n hx hb dX2_wipe_21 rfl (lv_at hl 0 rfl) ?_
        refine t_getfd C h t_8 hu0 (by decide) wf_20 (v := .ref rq) k8_u0_3 fl_X2_25 dX2_wipe_22 ?_
        refine t_getfd C h t_8 trq (by decide) wf_23 (v := .int rt) k8_rq_3 fl_X2_69 dX2_wipe_25 ?_
        obtain ⟨_, r41⟩ := t_rec t_8 hu0 (by decide) wf_20
        refine k_i (r_V C h hl (As := [.int v8_1, .int rt]) (rest := []) (s_X2_cell l D G b0 τ f_8 t_8 u0 hu0 v8_1 (iv_w i40 (by decide)) rt (iv_w irt (by decide)) sx isx k8_u0_9 sy isy k8_u0_10) r41 (Cn := RX2) (T := TX2) (N := 11) rfl rfl mk_X2_cell w_671 w_673 w_12 w_674 ⟨Nat.le_of_ble_eq_true rfl, Nat.le_of_ble_eq_true rfl⟩ rfl (Nat.le_of_ble_eq_true rfl) ⟨Nat.le_of_ble_eq_true rfl, Nat.le_of_ble_eq_true rfl⟩ rfl dX2_wipe_28) h (fun r42 f43 H locs p44 h => ?_)
        obtain ⟨ir42, tf43, ogf43, x0r42⟩ := p44
        have egf43 := Fr.nil2 ogf43
        subst egf43
        refine lv_istore_n (lv' := [(2, .int r42), (0, .ref u0), (1, .int v8_1)]) hx hb dX2_wipe_31 rfl hl (by decide) rfl (fun ls hl => ?_)
        refine lv_aload_n hx hb dX2_wipe_32 rfl (lv_at hl 1 rfl) ?_
        refine lv_iload_n hx hb dX2_wipe_33 rfl (lv_at hl 2 rfl) ?_
        refine lv_aload_n hx hb dX2_wipe_34 rfl (lv_at hl 1 rfl) ?_
        refine t_getfd C h t_8 hu0 (by decide) wf_20 (v := .ref rq) k8_u0_3 fl_X2_25 dX2_wipe_35 ?_
        refine t_getfd C h t_8 trq (by decide) wf_23 (v := .int rb) k8_rq_1 fl_X2_63 dX2_wipe_38 ?_
        obtain ⟨_, r45⟩ := t_rec t_8 hu0 (by decide) wf_20
        refine k_i (r_V C h hl (As := [.int v8_1, .int rb]) (rest := []) (s_X2_cell l D G b0 τ f_8 t_8 u0 hu0 v8_1 (iv_w i40 (by decide)) rb (iv_w irb (by decide)) sx isx k8_u0_9 sy isy k8_u0_10) r45 (Cn := RX2) (T := TX2) (N := 11) rfl rfl mk_X2_cell w_671 w_673 w_12 w_674 ⟨Nat.le_of_ble_eq_true rfl, Nat.le_of_ble_eq_true rfl⟩ rfl (Nat.le_of_ble_eq_true rfl) ⟨Nat.le_of_ble_eq_true rfl, Nat.le_of_ble_eq_true rfl⟩ rfl dX2_wipe_41) h (fun r46 f47 H locs p48 h => ?_)
        obtain ⟨ir46, tf47, ogf47, x0r46⟩ := p48
        have egf47 := Fr.nil2 ogf47
        subst egf47
        refine lv_istore_n (lv' := [(3, .int r46), (2, .int r42), (0, .ref u0), (1, .int v8_1)]) hx hb dX2_wipe_44 rfl hl (by decide) rfl (fun ls hl => ?_)
        exact L45 15021 ls f_8 H locs r42 r46 (show 15020 - r46.toInt < _ by omega) (lv_cons hl 2 rfl (lv_cons hl 3 rfl (lv_cons hl 1 rfl (lv_cons hl 0 rfl (lv_nil hl))))) h t_8 o_8 i40 (show iv r42 (-20000) 15004 from by omega) (show iv r46 124 15020 from by omega) k8_u0_3 k8_u0_2 k8_u0_9 k8_u0_10 k8_rq_0 k8_rq_1 k8_rq_2 k8_rq_3 k8_mq_0 k8_mq_1 k8_mq_2 k8_mq_3
  refine lv_aload_n hx hb dX2_wipe_0 rfl (lv_at hl 0 rfl) ?_
  refine t_getfd C h t hu0 (by decide) wf_20 (v := .ref rq) kg3 fl_X2_25 dX2_wipe_1 ?_
  refine t_getfd C h t trq (by decide) wf_23 (v := .int rl) krl fl_X2_60 dX2_wipe_4 ?_
  refine lv_istore_n (lv' := [(1, .int rl), (0, .ref u0)]) hx hb dX2_wipe_7 rfl hl (by decide) rfl (fun ls hl => ?_)
  exact L8 131 ls f s.heap [] rl (show 70 - rl.toInt < _ by omega) (lv_cons hl 1 rfl (lv_cons hl 0 rfl (lv_nil hl))) h t o (iv_w irl (by decide)) kg3 kg2 ksx ksy krl krb krr krt kml kmb kmr kmt (show rl.toInt ≤ rl.toInt by omega)
abbrev rm_s_X2_takeSteps : Room := { frames := 1, cells := 0, slots := 0, locals := 22 }
set_option maxRecDepth 100000 in
set_option maxHeartbeats 4000000 in
theorem s_X2_takeSteps (l : Launch) (D : va_G) (G : Nat → Nat) (b0 : Nat) (τ : Nat → Nat) (f : hM) (t : TI G 9 τ f) (u0 : Nat) (hu0 : τ u0 = 20) (u1 : Nat) (hu1 : τ u1 = 1) (rq mq : Nat) (hGJ : GJ τ f u0 rq mq) : mV l yX2_takeSteps cX2_takeSteps 3 rm_s_X2_takeSteps D G b0 f [.ref u0, .ref u1] (fun f1 => TI G 9 τ f1 ∧ Fr [20, 24, 25, 20007, 20008] τ f f1 ∧ GJ τ f1 u0 rq mq) := by
  refine met2 (own := RX2) (by decide) rfl (Nat.le_of_ble_eq_true rfl) ?_
  intro p e s m args below meth c ls Q hQ C hr hini hl h
  have hl : lv_has ls 3 [(0, .ref u0), (1, .ref u1)] := hl
  obtain ⟨hx, hb, hml, hown, hts, hE0, hlk⟩ := id C
  have o := Fr.rf [20, 24, 25, 20007, 20008] τ f
  obtain ⟨sx, sy, rl, rb, rr, rt, ml, mb, mr, mt, ⟨trq, tmq⟩, ⟨kg3, kg2, ksx, ksy⟩, ⟨krl, krb, krr, krt⟩, ⟨kml, kmb, kmr, kmt⟩, ⟨isx, isy, irl, irb, irr, irt, iml, imb, imr, imt⟩, ⟨gr1, gr2, gr3, gr4⟩, ⟨gr5, gr6, gr7, gr8⟩⟩ := hGJ
  have L15 : ∀ (n15 : Nat) (ls : Array Slot) (f_15 : hM) (H : Heap) (locs : List Loc) (v15_2 : Int32) (g15_u0_6 : Int32), 8 - v15_2.toInt < (n15 : Int) → lv_has ls 3 [(0, .ref u0), (1, .ref u1), (2, .int v15_2)] → hw D b0 s.heap f_15 H locs → TI G 9 τ f_15 → Fr [20, 24, 25, 20007, 20008] τ f f_15 → iv v15_2 0 8 → iv g15_u0_6 0 8 → atp f_15 u0 (fd 3 (.ref rq)) → atp f_15 u0 (fd 2 (.ref mq)) → atp f_15 u0 (fd 9 (.int sx)) → atp f_15 u0 (fd 10 (.int sy)) → atp f_15 rq (fd 0 (.int rl)) → atp f_15 rq (fd 1 (.int rb)) → atp f_15 rq (fd 2 (.int rr)) → atp f_15 rq (fd 3 (.int rt)) → atp f_15 mq (fd 0 (.int ml)) → atp f_15 mq (fd 1 (.int mb)) → atp f_15 mq (fd 2 (.int mr)) → atp f_15 mq (fd 3 (.int mt)) → atp f_15 u0 (fd 6 (.int g15_u0_6)) → g15_u0_6.toInt ≤ v15_2.toInt → W p l e rm_s_X2_takeSteps s m args below meth c H locs 0 0 Q (F0 m 15 ls []) := by
    intro n15
    induction n15 with
    | zero => intro ls f_15 H locs v15_2 g15_u0_6 hm15 hl h t_15 o_15 iv15_2 ig15_u0_6 k15_u0_3 k15_u0_2 k15_u0_9 k15_u0_10 k15_rq_0 k15_rq_1 k15_rq_2 k15_rq_3 k15_mq_0 k15_mq_1 k15_mq_2 k15_mq_3 k15_u0_6 hv15_0; exact absurd hm15 (by omega)
    | succ n15 ih15 =>
      intro ls f_15 H locs v15_2 g15_u0_6 hm15 hl h t_15 o_15 iv15_2 ig15_u0_6 k15_u0_3 k15_u0_2 k15_u0_9 k15_u0_10 k15_rq_0 k15_rq_1 k15_rq_2 k15_rq_3 k15_mq_0 k15_mq_1 k15_mq_2 k15_mq_3 k15_u0_6 hv15_0
      refine lv_iload_n hx hb dX2_takeSteps_15 rfl (lv_at hl 2 rfl) ?_
      refine lv_bipush (v := 8) hx hb dX2_takeSteps_16 (by decide) ?_
      refine lv_icmp_ge (tgt := 104) hx hb dX2_takeSteps_18 (by decide) (fun c1 => ?_) (fun c1 => ?_)
      · have c2 : 8 ≤ v15_2.toInt := Int32.le_iff_toInt_le.mp c1
        have i3 : iv v15_2 8 8 := iv_Er c2 (iv_k (x := 8) (k := 8) rfl) iv15_2 (by decide)
        have gj6 : GJ τ f_15 u0 rq mq := ⟨sx, sy, rl, rb, rr, rt, ml, mb, mr, mt, ⟨trq, tmq⟩, ⟨k15_u0_3, k15_u0_2, k15_u0_9, k15_u0_10⟩, ⟨k15_rq_0, k15_rq_1, k15_rq_2, k15_rq_3⟩, ⟨k15_mq_0, k15_mq_1, k15_mq_2, k15_mq_3⟩, ⟨isx, isy, irl, irb, irr, irt, iml, imb, imr, imt⟩, ⟨by omega, by omega, by omega, by omega⟩, ⟨by omega, by omega, by omega, by omega⟩⟩
        exact u_vret C h hr hQ (⟨t_15, o_15, gj6⟩) (Nat.le_of_ble_eq_true rfl) (Nat.le_of_ble_eq_true rfl) dX2_takeSteps_104
      · have c4 : v15_2.toInt < 8 := Int32.lt_iff_toInt_lt.mp (iv_nle c1)
        have i5 : iv v15_2 0 7 := iv_Ll c4 iv15_2 (iv_k (x := 8) (k := 8) rfl) (by decide)
        refine lv_aload_n hx hb dX2_takeSteps_21 rfl (lv_at hl 1 rfl) ?_
        refine t_getr (tq := 2) C h t_15 hu1 (by decide) wf_1 rfl fl_X2_94 dX2_takeSteps_22 (fun q7 tq7 => ?_)
        refine lv_iload_n hx hb dX2_takeSteps_25 rfl (lv_at hl 2 rfl) ?_
        refine t_iald C h t_15 tq7 (by decide) wf_2 (iv_in i5 (by decide)) dX2_takeSteps_26 (fun z8 iz8 => ?_)
        refine lv_if_eq (tgt := 98) hx hb dX2_takeSteps_27 (by decide) (fun c9 => ?_) (fun c9 => ?_)
        · have c10 : z8.toInt = 0 := congrArg Int32.toInt c9
          have i11 : iv z8 0 0 := iv_Q c10 iz8 (iv_k (x := 0) (k := 0) rfl) (by decide)
          refine i_inc hx hb dX2_takeSteps_98 hl (k := 2) rfl i5 rfl (lo := 1) (hi := 8) (by decide) (by decide) (lv' := fun v => [(2, .int v), (0, .ref u0), (1, .ref u1)]) (fun _ => rfl) (fun z14 ls ez14 mz14 iz14 hl => ?_)
          refine lv_goto (tgt := 15) hx hb dX2_takeSteps_101 (by decide) ?_
          exact ih15 ls f_15 H locs z14 g15_u0_6 (show 8 - z14.toInt < _ by omega) (lv_cons hl 1 rfl (lv_cons hl 2 rfl (lv_cons hl 0 rfl (lv_nil hl)))) h t_15 o_15 (iv_w iz14 (by decide)) ig15_u0_6 k15_u0_3 k15_u0_2 k15_u0_9 k15_u0_10 k15_rq_0 k15_rq_1 k15_rq_2 k15_rq_3 k15_mq_0 k15_mq_1 k15_mq_2 k15_mq_3 k15_u0_6 (show g15_u0_6.toInt ≤ z14.toInt by omega)
        · have c12 : z8.toInt ≠ 0 := fun z_ => c9 (Int32.toInt_inj.mp z_)
          have i13 : iv z8 1 9 := iv_Nl c12 iz8 (by decide)
          refine lv_aload_n hx hb dX2_takeSteps_30 rfl (lv_at hl 0 rfl) ?_
          refine t_getr (tq := 24) C h t_15 hu0 (by decide) wf_20 rfl fl_X2_28 dX2_takeSteps_31 (fun q15 tq15 => ?_)
          refine lv_aload_n hx hb dX2_takeSteps_34 rfl (lv_at hl 0 rfl) ?_
          refine t_getfd C h t_15 hu0 (by decide) wf_20 (v := .int g15_u0_6) k15_u0_6 fl_X2_85 dX2_takeSteps_35 ?_
          refine st_getN C h (i := 0) (by decide) (by decide) dX2_takeSteps_38 ?_
          refine lv_iload_n hx hb dX2_takeSteps_41 rfl (lv_at hl 2 rfl) ?_
          refine st_ald C h (k := 0) (by decide) st_b0 (iv_in i5 (by decide)) dX2_takeSteps_42 (fun z16 ez16 iz16 => ?_)
          refine lv_bipush (v := 123) hx hb dX2_takeSteps_43 (by decide) ?_
          refine i_mulc hx hb dX2_takeSteps_45 iz16 (k := 123) rfl (lo := (-123)) (hi := 123) (by decide) (fun z17 ez17 mz17 iz17 => ?_)
          refine st_getN C h (i := 1) (by decide) (by decide) dX2_takeSteps_46 ?_
          refine lv_iload_n hx hb dX2_takeSteps_49 rfl (lv_at hl 2 rfl) ?_
          refine st_ald C h (k := 1) (by decide) st_b1 (iv_in i5 (by decide)) dX2_takeSteps_50 (fun z18 ez18 iz18 => ?_)
          refine i_add hx hb dX2_takeSteps_51 iz17 iz18 (lo := (-124)) (hi := 124) (by decide) (fun z19 ez19 mz19 iz19 => ?_)
          refine t_iast C h t_15 o_15 tq15 (by decide) (by decide) wf_24 fw_24 (ix_o (by omega)) iz19 dX2_takeSteps_52 (fun f20 H locs h tf20 of20 hq => ?_)
          have k21 := atp.tg k15_u0_3 hq hu0 (by decide)
          have k22 := atp.tg k15_u0_2 hq hu0 (by decide)
          have k23 := atp.tg k15_u0_9 hq hu0 (by decide)
          have k24 := atp.tg k15_u0_10 hq hu0 (by decide)
          have k25 := atp.tg k15_rq_0 hq trq (by decide)
          have k26 := atp.tg k15_rq_1 hq trq (by decide)
          have k27 := atp.tg k15_rq_2 hq trq (by decide)
          have k28 := atp.tg k15_rq_3 hq trq (by decide)
          have k29 := atp.tg k15_mq_0 hq tmq (by decide)
          have k30 := atp.tg k15_mq_1 hq tmq (by decide)
          have k31 := atp.tg k15_mq_2 hq tmq (by decide)
          have k32 := atp.tg k15_mq_3 hq tmq (by decide)
          have k33 := atp.tg k15_u0_6 hq hu0 (by decide)
          refine lv_aload_n hx hb dX2_takeSteps_53 rfl (lv_at hl 0 rfl) ?_
          refine t_getr (tq := 25) C h tf20 hu0 (by decide) wf_20 rfl fl_X2_32 dX2_takeSteps_54 (fun q34 tq34 => ?_)
          refine lv_aload_n hx hb dX2_takeSteps_57 rfl (lv_at hl 0 rfl) ?_
          refine t_getfd C h tf20 hu0 (by decide) wf_20 (v := .int g15_u0_6) k33 fl_X2_85 dX2_takeSteps_58 ?_
          refine lv_aload_n hx hb dX2_takeSteps_61 rfl (lv_at hl 0 rfl) ?_
          refine t_geti C h tf20 hu0 (by decide) wf_20 rfl fl_X2_46 dX2_takeSteps_62 (fun z35 iz35 => ?_)
          refine lv_if_eq (tgt := 76) hx hb dX2_takeSteps_65 (by decide) (fun c36 => ?_) (fun c36 => ?_)
          · have c37 : z35.toInt = 0 := congrArg Int32.toInt c36
            have i38 : iv z35 0 0 := iv_Q c37 iz35 (iv_k (x := 0) (k := 0) rfl) (by decide)
            refine lv_aload_n hx hb dX2_takeSteps_76 rfl (lv_at hl 1 rfl) ?_
            refine t_getr (tq := 2) C h tf20 hu1 (by decide) wf_1 rfl fl_X2_94 dX2_takeSteps_77 (fun q41 tq41 => ?_)
            refine lv_iload_n hx hb dX2_takeSteps_80 rfl (lv_at hl 2 rfl) ?_
            refine t_iald C h tf20 tq41 (by decide) wf_2 (iv_in i5 (by decide)) dX2_takeSteps_81 (fun z42 iz42 => ?_)
            refine lv_i2l hx hb dX2_takeSteps_82 rfl (i_topL iz42 (fun w43 ew43 mw43 iw43 => ?_))
            refine lv_goto (tgt := 87) hx hb dX2_takeSteps_83 (by decide) ?_
            refine t_last C h tf20 of20 tq34 (by decide) (by decide) wf_25 fw_25 (ix_o (by omega)) dX2_takeSteps_87 (fun f44 H locs h tf44 of44 hq => ?_)
            have k45 := atp.tg k21 hq hu0 (by decide)
            have k46 := atp.tg k22 hq hu0 (by decide)
            have k47 := atp.tg k23 hq hu0 (by decide)
            have k48 := atp.tg k24 hq hu0 (by decide)
            have k49 := atp.tg k25 hq trq (by decide)
            have k50 := atp.tg k26 hq trq (by decide)
            have k51 := atp.tg k27 hq trq (by decide)
            have k52 := atp.tg k28 hq trq (by decide)
            have k53 := atp.tg k29 hq tmq (by decide)
            have k54 := atp.tg k30 hq tmq (by decide)
            have k55 := atp.tg k31 hq tmq (by decide)
            have k56 := atp.tg k32 hq tmq (by decide)
            have k57 := atp.tg k33 hq hu0 (by decide)
            refine lv_aload_n hx hb dX2_takeSteps_88 rfl (lv_at hl 0 rfl) ?_
            refine lv_dup hx hb dX2_takeSteps_89 rfl ?_
            refine t_getfd C h tf44 hu0 (by decide) wf_20 (v := .int g15_u0_6) k57 fl_X2_85 dX2_takeSteps_90 ?_
            refine lv_iconst (v := 1) hx hb dX2_takeSteps_93 (by decide) ?_
            refine i_addk hx hb dX2_takeSteps_94 ig15_u0_6 (k := 1) rfl (lo := 1) (hi := 9) (by decide) (fun z58 ez58 mz58 iz58 => ?_)
            refine t_put C h tf44 of44 hu0 (by decide) (by decide) (by decide) wf_20 fw_20 (k := 6) rfl flw_X2_85 (Or.inr ⟨_, _, _, rfl, rfl⟩) (v := .int z58) rfl rfl ⟨_, rfl, (show iv z58 0 8 from by omega)⟩ dX2_takeSteps_95 (fun f59 H locs h tf59 of59 hq ha_ hn_ hk_ => ?_)
            have k60 := hk_ 3 _ (by decide) k45
            have k61 := hk_ 2 _ (by decide) k46
            have k62 := hk_ 9 _ (by decide) k47
            have k63 := hk_ 10 _ (by decide) k48
            have k64 := atp.tg k49 hq trq (by decide)
            have k65 := atp.tg k50 hq trq (by decide)
            have k66 := atp.tg k51 hq trq (by decide)
            have k67 := atp.tg k52 hq trq (by decide)
            have k68 := atp.tg k53 hq tmq (by decide)
            have k69 := atp.tg k54 hq tmq (by decide)
            have k70 := atp.tg k55 hq tmq (by decide)
            have k71 := atp.tg k56 hq tmq (by decide)
            have k73 := ha_
            refine i_inc hx hb dX2_takeSteps_98 hl (k := 2) rfl i5 rfl (lo := 1) (hi := 8) (by decide) (by decide) (lv' := fun v => [(2, .int v), (0, .ref u0), (1, .ref u1)]) (fun _ => rfl) (fun z74 ls ez74 mz74 iz74 hl => ?_)
            refine lv_goto (tgt := 15) hx hb dX2_takeSteps_101 (by decide) ?_
            exact ih15 ls f59 H locs z74 z58 (show 8 - z74.toInt < _ by omega) (lv_cons hl 1 rfl (lv_cons hl 2 rfl (lv_cons hl 0 rfl (lv_nil hl)))) h tf59 of59 (iv_w iz74 (by decide)) (show iv z58 0 8 from by omega) k60 k61 k62 k63 k64 k65 k66 k67 k68 k69 k70 k71 k73 (show z58.toInt ≤ z74.toInt by omega)
          · have c39 : z35.toInt ≠ 0 := fun z_ => c36 (Int32.toInt_inj.mp z_)
            have i40 : iv z35 1 3 := iv_Nl c39 iz35 (by decide)
            refine lv_aload_n hx hb dX2_takeSteps_68 rfl (lv_at hl 0 rfl) ?_
            refine t_geti C h tf20 hu0 (by decide) wf_20 rfl fl_X2_46 dX2_takeSteps_69 (fun z75 iz75 => ?_)
            refine lv_iconst (v := 1) hx hb dX2_takeSteps_72 (by decide) ?_
            refine lv_icmp_ne (tgt := 86) hx hb dX2_takeSteps_73 (by decide) (fun c76 => ?_) (fun c76 => ?_)
            · have c77 : z75.toInt ≠ 1 := fun z_ => c76 (Int32.toInt_inj.mp z_)
              refine lv_lconst (v := 1) hx hb dX2_takeSteps_86 (by decide) ?_
              refine t_last C h tf20 of20 tq34 (by decide) (by decide) wf_25 fw_25 (ix_o (by omega)) dX2_takeSteps_87 (fun f80 H locs h tf80 of80 hq => ?_)
              have k81 := atp.tg k21 hq hu0 (by decide)
              have k82 := atp.tg k22 hq hu0 (by decide)
              have k83 := atp.tg k23 hq hu0 (by decide)
              have k84 := atp.tg k24 hq hu0 (by decide)
              have k85 := atp.tg k25 hq trq (by decide)
              have k86 := atp.tg k26 hq trq (by decide)
              have k87 := atp.tg k27 hq trq (by decide)
              have k88 := atp.tg k28 hq trq (by decide)
              have k89 := atp.tg k29 hq tmq (by decide)
              have k90 := atp.tg k30 hq tmq (by decide)
              have k91 := atp.tg k31 hq tmq (by decide)
              have k92 := atp.tg k32 hq tmq (by decide)
              have k93 := atp.tg k33 hq hu0 (by decide)
              refine lv_aload_n hx hb dX2_takeSteps_88 rfl (lv_at hl 0 rfl) ?_
              refine lv_dup hx hb dX2_takeSteps_89 rfl ?_
              refine t_getfd C h tf80 hu0 (by decide) wf_20 (v := .int g15_u0_6) k93 fl_X2_85 dX2_takeSteps_90 ?_
              refine lv_iconst (v := 1) hx hb dX2_takeSteps_93 (by decide) ?_
              refine i_addk hx hb dX2_takeSteps_94 ig15_u0_6 (k := 1) rfl (lo := 1) (hi := 9) (by decide) (fun z94 ez94 mz94 iz94 => ?_)
              refine t_put C h tf80 of80 hu0 (by decide) (by decide) (by decide) wf_20 fw_20 (k := 6) rfl flw_X2_85 (Or.inr ⟨_, _, _, rfl, rfl⟩) (v := .int z94) rfl rfl ⟨_, rfl, (show iv z94 0 8 from by omega)⟩ dX2_takeSteps_95 (fun f95 H locs h tf95 of95 hq ha_ hn_ hk_ => ?_)
              have k96 := hk_ 3 _ (by decide) k81
              have k97 := hk_ 2 _ (by decide) k82
              have k98 := hk_ 9 _ (by decide) k83
              have k99 := hk_ 10 _ (by decide) k84
              have k100 := atp.tg k85 hq trq (by decide)
              have k101 := atp.tg k86 hq trq (by decide)
              have k102 := atp.tg k87 hq trq (by decide)
              have k103 := atp.tg k88 hq trq (by decide)
              have k104 := atp.tg k89 hq tmq (by decide)
              have k105 := atp.tg k90 hq tmq (by decide)
              have k106 := atp.tg k91 hq tmq (by decide)
              have k107 := atp.tg k92 hq tmq (by decide)
              have k109 := ha_
              refine i_inc hx hb dX2_takeSteps_98 hl (k := 2) rfl i5 rfl (lo := 1) (hi := 8) (by decide) (by decide) (lv' := fun v => [(2, .int v), (0, .ref u0), (1, .ref u1)]) (fun _ => rfl) (fun z110 ls ez110 mz110 iz110 hl => ?_)
              refine lv_goto (tgt := 15) hx hb dX2_takeSteps_101 (by decide) ?_
              exact ih15 ls f95 H locs z110 z94 (show 8 - z110.toInt < _ by omega) (lv_cons hl 1 rfl (lv_cons hl 2 rfl (lv_cons hl 0 rfl (lv_nil hl)))) h tf95 of95 (iv_w iz110 (by decide)) (show iv z94 0 8 from by omega) k96 k97 k98 k99 k100 k101 k102 k103 k104 k105 k106 k107 k109 (show z94.toInt ≤ z110.toInt by omega)
            · have c78 : z75.toInt = 1 := congrArg Int32.toInt c76
              have i79 : iv z75 1 1 := iv_Q c78 iz75 (iv_k (x := 1) (k := 1) rfl) (by decide)
              refine lv_aload_n hx hb dX2_takeSteps_76 rfl (lv_at hl 1 rfl) ?_
              refine t_getr (tq := 2) C h tf20 hu1 (by decide) wf_1 rfl fl_X2_94 dX2_takeSteps_77 (fun q111 tq111 => ?_)
              refine lv_iload_n hx hb dX2_takeSteps_80 rfl (lv_at hl 2 rfl) ?_
              refine t_iald C h tf20 tq111 (by decide) wf_2 (iv_in i5 (by decide)) dX2_takeSteps_81 (fun z112 iz112 => ?_)
              refine lv_i2l hx hb dX2_takeSteps_82 rfl (i_topL iz112 (fun w113 ew113 mw113 iw113 => ?_))
              refine lv_goto (tgt := 87) hx hb dX2_takeSteps_83 (by decide) ?_
              refine t_last C h tf20 of20 tq34 (by decide) (by decide) wf_25 fw_25 (ix_o (by omega)) dX2_takeSteps_87 (fun f114 H locs h tf114 of114 hq => ?_)
              have k115 := atp.tg k21 hq hu0 (by decide)
              have k116 := atp.tg k22 hq hu0 (by decide)
              have k117 := atp.tg k23 hq hu0 (by decide)
              have k118 := atp.tg k24 hq hu0 (by decide)
              have k119 := atp.tg k25 hq trq (by decide)
              have k120 := atp.tg k26 hq trq (by decide)
              have k121 := atp.tg k27 hq trq (by decide)
              have k122 := atp.tg k28 hq trq (by decide)
              have k123 := atp.tg k29 hq tmq (by decide)
              have k124 := atp.tg k30 hq tmq (by decide)
              have k125 := atp.tg k31 hq tmq (by decide)
              have k126 := atp.tg k32 hq tmq (by decide)
              have k127 := atp.tg k33 hq hu0 (by decide)
              refine lv_aload_n hx hb dX2_takeSteps_88 rfl (lv_at hl 0 rfl) ?_
              refine lv_dup hx hb dX2_takeSteps_89 rfl ?_
              refine t_getfd C h tf114 hu0 (by decide) wf_20 (v := .int g15_u0_6) k127 fl_X2_85 dX2_takeSteps_90 ?_
              refine lv_iconst (v := 1) hx hb dX2_takeSteps_93 (by decide) ?_
              refine i_addk hx hb dX2_takeSteps_94 ig15_u0_6 (k := 1) rfl (lo := 1) (hi := 9) (by decide) (fun z128 ez128 mz128 iz128 => ?_)
              refine t_put C h tf114 of114 hu0 (by decide) (by decide) (by decide) wf_20 fw_20 (k := 6) rfl flw_X2_85 (Or.inr ⟨_, _, _, rfl, rfl⟩) (v := .int z128) rfl rfl ⟨_, rfl, (show iv z128 0 8 from by omega)⟩ dX2_takeSteps_95 (fun f129 H locs h tf129 of129 hq ha_ hn_ hk_ => ?_)
              have k130 := hk_ 3 _ (by decide) k115
              have k131 := hk_ 2 _ (by decide) k116
              have k132 := hk_ 9 _ (by decide) k117
              have k133 := hk_ 10 _ (by decide) k118
              have k134 := atp.tg k119 hq trq (by decide)
              have k135 := atp.tg k120 hq trq (by decide)
              have k136 := atp.tg k121 hq trq (by decide)
              have k137 := atp.tg k122 hq trq (by decide)
              have k138 := atp.tg k123 hq tmq (by decide)
              have k139 := atp.tg k124 hq tmq (by decide)
              have k140 := atp.tg k125 hq tmq (by decide)
              have k141 := atp.tg k126 hq tmq (by decide)
              have k143 := ha_
              refine i_inc hx hb dX2_takeSteps_98 hl (k := 2) rfl i5 rfl (lo := 1) (hi := 8) (by decide) (by decide) (lv' := fun v => [(2, .int v), (0, .ref u0), (1, .ref u1)]) (fun _ => rfl) (fun z144 ls ez144 mz144 iz144 hl => ?_)
              refine lv_goto (tgt := 15) hx hb dX2_takeSteps_101 (by decide) ?_
              exact ih15 ls f129 H locs z144 z128 (show 8 - z144.toInt < _ by omega) (lv_cons hl 1 rfl (lv_cons hl 2 rfl (lv_cons hl 0 rfl (lv_nil hl)))) h tf129 of129 (iv_w iz144 (by decide)) (show iv z128 0 8 from by omega) k130 k131 k132 k133 k134 k135 k136 k137 k138 k139 k140 k141 k143 (show z128.toInt ≤ z144.toInt by omega)
  refine lv_aload_n hx hb dX2_takeSteps_0 rfl (lv_at hl 0 rfl) ?_
  refine lv_iconst (v := 0) hx hb dX2_takeSteps_1 (by decide) ?_
  refine t_put C h t o hu0 (by decide) (by decide) (by decide) wf_20 fw_20 (k := 6) rfl flw_X2_85 (Or.inr ⟨_, _, _, rfl, rfl⟩) (v := .int 0) rfl rfl ⟨_, rfl, ⟨by decide, by decide⟩⟩ dX2_takeSteps_2 (fun f145 H locs h tf145 of145 hq ha_ hn_ hk_ => ?_)
  have k146 := hk_ 3 _ (by decide) kg3
  have k147 := hk_ 2 _ (by decide) kg2
  have k148 := hk_ 9 _ (by decide) ksx
  have k149 := hk_ 10 _ (by decide) ksy
  have k150 := atp.tg krl hq trq (by decide)
  have k151 := atp.tg krb hq trq (by decide)
  have k152 := atp.tg krr hq trq (by decide)
  have k153 := atp.tg krt hq trq (by decide)
  have k154 := atp.tg kml hq tmq (by decide)
  have k155 := atp.tg kmb hq tmq (by decide)
  have k156 := atp.tg kmr hq tmq (by decide)
  have k157 := atp.tg kmt hq tmq (by decide)
  have k158 := ha_
  refine lv_aload_n hx hb dX2_takeSteps_5 rfl (lv_at hl 0 rfl) ?_
  refine lv_aload_n hx hb dX2_takeSteps_6 rfl (lv_at hl 1 rfl) ?_
  obtain ⟨_, r159⟩ := t_rec tf145 hu1 (by decide) wf_1
  refine k_i (r_V C h hl (As := []) (rest := [.ref u0]) (s_X6_bits l D G b0 τ f145 tf145 u1 hu1) r159 (Cn := RX6) (T := TX6) (N := 4) rfl rfl mk_X6_bits w_679 w_680 w_681 w_682 ⟨Nat.le_of_ble_eq_true rfl, Nat.le_of_ble_eq_true rfl⟩ rfl (Nat.le_of_ble_eq_true rfl) ⟨Nat.le_of_ble_eq_true rfl, Nat.le_of_ble_eq_true rfl⟩ rfl dX2_takeSteps_7) h (fun r160 f161 H locs p162 h => ?_)
  obtain ⟨ir160, tf161, ogf161⟩ := p162
  have egf161 := Fr.nil2 ogf161
  subst egf161
  refine t_put C h tf145 of145 hu0 (by decide) (by decide) (by decide) wf_20 fw_20 (k := 7) rfl flw_X2_92 (Or.inr ⟨_, _, _, rfl, rfl⟩) (v := .int r160) rfl rfl ⟨_, rfl, ir160⟩ dX2_takeSteps_10 (fun f163 H locs h tf163 of163 hq ha_ hn_ hk_ => ?_)
  have k164 := hk_ 3 _ (by decide) k146
  have k165 := hk_ 2 _ (by decide) k147
  have k166 := hk_ 9 _ (by decide) k148
  have k167 := hk_ 10 _ (by decide) k149
  have k168 := atp.tg k150 hq trq (by decide)
  have k169 := atp.tg k151 hq trq (by decide)
  have k170 := atp.tg k152 hq trq (by decide)
  have k171 := atp.tg k153 hq trq (by decide)
  have k172 := atp.tg k154 hq tmq (by decide)
  have k173 := atp.tg k155 hq tmq (by decide)
  have k174 := atp.tg k156 hq tmq (by decide)
  have k175 := atp.tg k157 hq tmq (by decide)
  have k176 := hk_ 6 _ (by decide) k158
  have k177 := ha_
  refine lv_iconst (v := 0) hx hb dX2_takeSteps_13 (by decide) ?_
  refine lv_istore_n (lv' := [(2, .int 0), (0, .ref u0), (1, .ref u1)]) hx hb dX2_takeSteps_14 rfl hl (by decide) rfl (fun ls hl => ?_)
  exact L15 9 ls f163 H locs 0 0 (by decide) (lv_cons hl 1 rfl (lv_cons hl 2 rfl (lv_cons hl 0 rfl (lv_nil hl)))) h tf163 of163 ⟨by decide, by decide⟩ ⟨by decide, by decide⟩ k164 k165 k166 k167 k168 k169 k170 k171 k172 k173 k174 k175 k176 (show 0 ≤ 0 by omega)
abbrev rm_s_X2_open : Room := { frames := 2, cells := 0, slots := 0, locals := 45 }
set_option maxRecDepth 100000 in
set_option maxHeartbeats 4000000 in
theorem s_X2_open (l : Launch) (D : va_G) (G : Nat → Nat) (b0 : Nat) (τ : Nat → Nat) (f : hM) (t : TI G 9 τ f) (u0 : Nat) (hu0 : τ u0 = 20) (u1 : Nat) (hu1 : τ u1 = 1) (u2 : Int32) (hu2 : iv u2 0 3) (u3 : Int32) (hu3 : iv u3 (-2147483648) 2147483647) (rq mq : Nat) (hGJ : GJ τ f u0 rq mq) : mV l yX2_open cX2_open 6 rm_s_X2_open D G b0 f [.ref u0, .ref u1, .int u2, .int u3] (fun f1 => TI G 9 τ f1 ∧ Fr [20, 21, 22, 23, 24, 25, 20007, 20008, 20009, 20010, 20011, 22001, 22002, 22003, 22004, 23001, 23002, 23003, 23004] τ f f1 ∧ GJ τ f1 u0 rq mq) := by
  refine met2 (own := RX2) (by decide) rfl (Nat.le_of_ble_eq_true rfl) ?_
  intro p e s m args below meth c ls Q hQ C hr hini hl h
  have hl : lv_has ls 6 [(0, .ref u0), (1, .ref u1), (2, .int u2), (3, .int u3)] := hl
  obtain ⟨hx, hb, hml, hown, hts, hE0, hlk⟩ := id C
  have o := Fr.rf [20, 21, 22, 23, 24, 25, 20007, 20008, 20009, 20010, 20011, 22001, 22002, 22003, 22004, 23001, 23002, 23003, 23004] τ f
  obtain ⟨sx, sy, rl, rb, rr, rt, ml, mb, mr, mt, ⟨trq, tmq⟩, ⟨kg3, kg2, ksx, ksy⟩, ⟨krl, krb, krr, krt⟩, ⟨kml, kmb, kmr, kmt⟩, ⟨isx, isy, irl, irb, irr, irt, iml, imb, imr, imt⟩, ⟨gr1, gr2, gr3, gr4⟩, ⟨gr5, gr6, gr7, gr8⟩⟩ := hGJ
  have L57 : ∀ (ls : Array Slot) (f_57 : hM) (H : Heap) (locs : List Loc) (v57_4 : Int32) (v57_5 : Int32) (g57_u0_9 : Int32) (g57_u0_10 : Int32), lv_has ls 6 [(0, .ref u0), (1, .ref u1), (4, .int v57_4), (5, .int v57_5)] → hw D b0 s.heap f_57 H locs → TI G 9 τ f_57 → Fr [20, 21, 22, 23, 24, 25, 20007, 20008, 20009, 20010, 20011, 22001, 22002, 22003, 22004, 23001, 23002, 23003, 23004] τ f f_57 → iv v57_4 0 1 → iv v57_5 0 1 → iv g57_u0_9 0 9 → iv g57_u0_10 0 9 → atp f_57 u0 (fd 3 (.ref rq)) → atp f_57 u0 (fd 2 (.ref mq)) → atp f_57 rq (fd 0 (.int rl)) → atp f_57 rq (fd 1 (.int rb)) → atp f_57 rq (fd 2 (.int rr)) → atp f_57 rq (fd 3 (.int rt)) → atp f_57 mq (fd 0 (.int ml)) → atp f_57 mq (fd 1 (.int mb)) → atp f_57 mq (fd 2 (.int mr)) → atp f_57 mq (fd 3 (.int mt)) → atp f_57 u0 (fd 9 (.int g57_u0_9)) → atp f_57 u0 (fd 10 (.int g57_u0_10)) → W p l e rm_s_X2_open s m args below meth c H locs 0 0 Q (F0 m 57 ls []) := by
    intro ls f_57 H locs v57_4 v57_5 g57_u0_9 g57_u0_10 hl h t_57 o_57 iv57_4 iv57_5 ig57_u0_9 ig57_u0_10 k57_u0_3 k57_u0_2 k57_rq_0 k57_rq_1 k57_rq_2 k57_rq_3 k57_mq_0 k57_mq_1 k57_mq_2 k57_mq_3 k57_u0_9 k57_u0_10
    have L80 : ∀ (ls : Array Slot) (f_80 : hM) (H : Heap) (locs : List Loc) (g80_mq_0 : Int32), lv_has ls 6 [(0, .ref u0), (1, .ref u1), (5, .int v57_5)] → hw D b0 s.heap f_80 H locs → TI G 9 τ f_80 → Fr [20, 21, 22, 23, 24, 25, 20007, 20008, 20009, 20010, 20011, 22001, 22002, 22003, 22004, 23001, 23002, 23003, 23004] τ f f_80 → iv g80_mq_0 (-60) 0 → atp f_80 u0 (fd 3 (.ref rq)) → atp f_80 u0 (fd 2 (.ref mq)) → atp f_80 rq (fd 0 (.int rl)) → atp f_80 rq (fd 1 (.int rb)) → atp f_80 rq (fd 2 (.int rr)) → atp f_80 rq (fd 3 (.int rt)) → atp f_80 mq (fd 1 (.int mb)) → atp f_80 mq (fd 2 (.int mr)) → atp f_80 mq (fd 3 (.int mt)) → atp f_80 u0 (fd 9 (.int g57_u0_9)) → atp f_80 u0 (fd 10 (.int g57_u0_10)) → atp f_80 mq (fd 0 (.int g80_mq_0)) → g57_u0_9.toInt - 60 ≤ g80_mq_0.toInt → W p l e rm_s_X2_open s m args below meth c H locs 0 0 Q (F0 m 80 ls []) := by
      intro ls f_80 H locs g80_mq_0 hl h t_80 o_80 ig80_mq_0 k80_u0_3 k80_u0_2 k80_rq_0 k80_rq_1 k80_rq_2 k80_rq_3 k80_mq_1 k80_mq_2 k80_mq_3 k80_u0_9 k80_u0_10 k80_mq_0 hv80_0
      have L103 : ∀ (ls : Array Slot) (f_103 : hM) (H : Heap) (locs : List Loc) (g103_mq_1 : Int32), lv_has ls 6 [(0, .ref u0), (1, .ref u1)] → hw D b0 s.heap f_103 H locs → TI G 9 τ f_103 → Fr [20, 21, 22, 23, 24, 25, 20007, 20008, 20009, 20010, 20011, 22001, 22002, 22003, 22004, 23001, 23002, 23003, 23004] τ f f_103 → iv g103_mq_1 (-60) 0 → atp f_103 u0 (fd 3 (.ref rq)) → atp f_103 u0 (fd 2 (.ref mq)) → atp f_103 rq (fd 0 (.int rl)) → atp f_103 rq (fd 1 (.int rb)) → atp f_103 rq (fd 2 (.int rr)) → atp f_103 rq (fd 3 (.int rt)) → atp f_103 mq (fd 2 (.int mr)) → atp f_103 mq (fd 3 (.int mt)) → atp f_103 u0 (fd 9 (.int g57_u0_9)) → atp f_103 u0 (fd 10 (.int g57_u0_10)) → atp f_103 mq (fd 0 (.int g80_mq_0)) → atp f_103 mq (fd 1 (.int g103_mq_1)) → g57_u0_9.toInt - 60 ≤ g80_mq_0.toInt → g57_u0_10.toInt - 60 ≤ g103_mq_1.toInt → W p l e rm_s_X2_open s m args below meth c H locs 0 0 Q (F0 m 103 ls []) := by
        intro ls f_103 H locs g103_mq_1 hl h t_103 o_103 ig103_mq_1 k103_u0_3 k103_u0_2 k103_rq_0 k103_rq_1 k103_rq_2 k103_rq_3 k103_mq_2 k103_mq_3 k103_u0_9 k103_u0_10 k103_mq_0 k103_mq_1 hv103_0 hv103_1
        refine lv_aload_n hx hb dX2_open_103 rfl (lv_at hl 0 rfl) ?_
        refine t_getfd C h t_103 hu0 (by decide) wf_20 (v := .ref mq) k103_u0_2 fl_X2_21 dX2_open_104 ?_
        refine lv_aload_n hx hb dX2_open_107 rfl (lv_at hl 0 rfl) ?_
        refine t_getfd C h t_103 hu0 (by decide) wf_20 (v := .int g57_u0_9) k103_u0_9 fl_X2_55 dX2_open_108 ?_
        refine lv_bipush (v := 60) hx hb dX2_open_111 (by decide) ?_
        refine i_addk hx hb dX2_open_113 ig57_u0_9 (k := 60) rfl (lo := 60) (hi := 69) (by decide) (fun z1 ez1 mz1 iz1 => ?_)
        refine t_put C h t_103 o_103 tmq (by decide) (by decide) (by decide) wf_22 fw_22 (k := 2) rfl flw_X2_66 (Or.inr ⟨_, _, _, rfl, rfl⟩) (v := .int z1) rfl rfl ⟨_, rfl, (iv_w iz1 (by decide))⟩ dX2_open_114 (fun f2 H locs h tf2 of2 hq ha_ hn_ hk_ => ?_)
        have k3 := atp.tg k103_u0_3 hq hu0 (by decide)
        have k4 := atp.tg k103_u0_2 hq hu0 (by decide)
        have k5 := atp.tg k103_rq_0 hq trq (by decide)
        have k6 := atp.tg k103_rq_1 hq trq (by decide)
        have k7 := atp.tg k103_rq_2 hq trq (by decide)
        have k8 := atp.tg k103_rq_3 hq trq (by decide)
        have k10 := hk_ 3 _ (by decide) k103_mq_3
        have k11 := atp.tg k103_u0_9 hq hu0 (by decide)
        have k12 := atp.tg k103_u0_10 hq hu0 (by decide)
        have k13 := hk_ 0 _ (by decide) k103_mq_0
        have k14 := hk_ 1 _ (by decide) k103_mq_1
        have k15 := ha_
        refine lv_aload_n hx hb dX2_open_117 rfl (lv_at hl 0 rfl) ?_
        refine t_getfd C h tf2 hu0 (by decide) wf_20 (v := .ref mq) k4 fl_X2_21 dX2_open_118 ?_
        refine lv_aload_n hx hb dX2_open_121 rfl (lv_at hl 0 rfl) ?_
        refine t_getfd C h tf2 hu0 (by decide) wf_20 (v := .int g57_u0_10) k12 fl_X2_59 dX2_open_122 ?_
        refine lv_bipush (v := 60) hx hb dX2_open_125 (by decide) ?_
        refine i_addk hx hb dX2_open_127 ig57_u0_10 (k := 60) rfl (lo := 60) (hi := 69) (by decide) (fun z16 ez16 mz16 iz16 => ?_)
        refine t_put C h tf2 of2 tmq (by decide) (by decide) (by decide) wf_22 fw_22 (k := 3) rfl flw_X2_69 (Or.inr ⟨_, _, _, rfl, rfl⟩) (v := .int z16) rfl rfl ⟨_, rfl, (iv_w iz16 (by decide))⟩ dX2_open_128 (fun f17 H locs h tf17 of17 hq ha_ hn_ hk_ => ?_)
        have k18 := atp.tg k3 hq hu0 (by decide)
        have k19 := atp.tg k4 hq hu0 (by decide)
        have k20 := atp.tg k5 hq trq (by decide)
        have k21 := atp.tg k6 hq trq (by decide)
        have k22 := atp.tg k7 hq trq (by decide)
        have k23 := atp.tg k8 hq trq (by decide)
        have k25 := atp.tg k11 hq hu0 (by decide)
        have k26 := atp.tg k12 hq hu0 (by decide)
        have k27 := hk_ 0 _ (by decide) k13
        have k28 := hk_ 1 _ (by decide) k14
        have k29 := hk_ 2 _ (by decide) k15
        have k30 := ha_
        refine lv_aload_n hx hb dX2_open_131 rfl (lv_at hl 0 rfl) ?_
        refine t_getfd C h tf17 hu0 (by decide) wf_20 (v := .ref rq) k18 fl_X2_25 dX2_open_132 ?_
        refine lv_aload_n hx hb dX2_open_135 rfl (lv_at hl 0 rfl) ?_
        refine t_getfd C h tf17 hu0 (by decide) wf_20 (v := .int g57_u0_9) k25 fl_X2_55 dX2_open_136 ?_
        refine t_put C h tf17 of17 trq (by decide) (by decide) (by decide) wf_23 fw_23 (k := 0) rfl flw_X2_60 (Or.inr ⟨_, _, _, rfl, rfl⟩) (v := .int g57_u0_9) rfl rfl ⟨_, rfl, (iv_w ig57_u0_9 (by decide))⟩ dX2_open_139 (fun f31 H locs h tf31 of31 hq ha_ hn_ hk_ => ?_)
        have k32 := atp.tg k18 hq hu0 (by decide)
        have k33 := atp.tg k19 hq hu0 (by decide)
        have k35 := hk_ 1 _ (by decide) k21
        have k36 := hk_ 2 _ (by decide) k22
        have k37 := hk_ 3 _ (by decide) k23
        have k38 := atp.tg k25 hq hu0 (by decide)
        have k39 := atp.tg k26 hq hu0 (by decide)
        have k40 := atp.tg k27 hq tmq (by decide)
        have k41 := atp.tg k28 hq tmq (by decide)
        have k42 := atp.tg k29 hq tmq (by decide)
        have k43 := atp.tg k30 hq tmq (by decide)
        have k44 := ha_
        refine lv_aload_n hx hb dX2_open_142 rfl (lv_at hl 0 rfl) ?_
        refine t_getfd C h tf31 hu0 (by decide) wf_20 (v := .ref rq) k32 fl_X2_25 dX2_open_143 ?_
        refine lv_aload_n hx hb dX2_open_146 rfl (lv_at hl 0 rfl) ?_
        refine t_getfd C h tf31 hu0 (by decide) wf_20 (v := .int g57_u0_10) k39 fl_X2_59 dX2_open_147 ?_
        refine t_put C h tf31 of31 trq (by decide) (by decide) (by decide) wf_23 fw_23 (k := 1) rfl flw_X2_63 (Or.inr ⟨_, _, _, rfl, rfl⟩) (v := .int g57_u0_10) rfl rfl ⟨_, rfl, (iv_w ig57_u0_10 (by decide))⟩ dX2_open_150 (fun f45 H locs h tf45 of45 hq ha_ hn_ hk_ => ?_)
        have k46 := atp.tg k32 hq hu0 (by decide)
        have k47 := atp.tg k33 hq hu0 (by decide)
        have k49 := hk_ 2 _ (by decide) k36
        have k50 := hk_ 3 _ (by decide) k37
        have k51 := atp.tg k38 hq hu0 (by decide)
        have k52 := atp.tg k39 hq hu0 (by decide)
        have k53 := atp.tg k40 hq tmq (by decide)
        have k54 := atp.tg k41 hq tmq (by decide)
        have k55 := atp.tg k42 hq tmq (by decide)
        have k56 := atp.tg k43 hq tmq (by decide)
        have k57 := hk_ 0 _ (by decide) k44
        have k58 := ha_
        refine lv_aload_n hx hb dX2_open_153 rfl (lv_at hl 0 rfl) ?_
        refine t_getfd C h tf45 hu0 (by decide) wf_20 (v := .ref rq) k46 fl_X2_25 dX2_open_154 ?_
        refine lv_aload_n hx hb dX2_open_157 rfl (lv_at hl 0 rfl) ?_
        refine t_getfd C h tf45 hu0 (by decide) wf_20 (v := .int g57_u0_9) k51 fl_X2_55 dX2_open_158 ?_
        refine t_put C h tf45 of45 trq (by decide) (by decide) (by decide) wf_23 fw_23 (k := 2) rfl flw_X2_66 (Or.inr ⟨_, _, _, rfl, rfl⟩) (v := .int g57_u0_9) rfl rfl ⟨_, rfl, (iv_w ig57_u0_9 (by decide))⟩ dX2_open_161 (fun f59 H locs h tf59 of59 hq ha_ hn_ hk_ => ?_)
        have k60 := atp.tg k46 hq hu0 (by decide)
        have k61 := atp.tg k47 hq hu0 (by decide)
        have k63 := hk_ 3 _ (by decide) k50
        have k64 := atp.tg k51 hq hu0 (by decide)
        have k65 := atp.tg k52 hq hu0 (by decide)
        have k66 := atp.tg k53 hq tmq (by decide)
        have k67 := atp.tg k54 hq tmq (by decide)
        have k68 := atp.tg k55 hq tmq (by decide)
        have k69 := atp.tg k56 hq tmq (by decide)
        have k70 := hk_ 0 _ (by decide) k57
        have k71 := hk_ 1 _ (by decide) k58
        have k72 := ha_
        refine lv_aload_n hx hb dX2_open_164 rfl (lv_at hl 0 rfl) ?_
        refine t_getfd C h tf59 hu0 (by decide) wf_20 (v := .ref rq) k60 fl_X2_25 dX2_open_165 ?_
        refine lv_aload_n hx hb dX2_open_168 rfl (lv_at hl 0 rfl) ?_
        refine t_getfd C h tf59 hu0 (by decide) wf_20 (v := .int g57_u0_10) k65 fl_X2_59 dX2_open_169 ?_
        refine t_put C h tf59 of59 trq (by decide) (by decide) (by decide) wf_23 fw_23 (k := 3) rfl flw_X2_69 (Or.inr ⟨_, _, _, rfl, rfl⟩) (v := .int g57_u0_10) rfl rfl ⟨_, rfl, (iv_w ig57_u0_10 (by decide))⟩ dX2_open_172 (fun f73 H locs h tf73 of73 hq ha_ hn_ hk_ => ?_)
        have k74 := atp.tg k60 hq hu0 (by decide)
        have k75 := atp.tg k61 hq hu0 (by decide)
        have k77 := atp.tg k64 hq hu0 (by decide)
        have k78 := atp.tg k65 hq hu0 (by decide)
        have k79 := atp.tg k66 hq tmq (by decide)
        have k80 := atp.tg k67 hq tmq (by decide)
        have k81 := atp.tg k68 hq tmq (by decide)
        have k82 := atp.tg k69 hq tmq (by decide)
        have k83 := hk_ 0 _ (by decide) k70
        have k84 := hk_ 1 _ (by decide) k71
        have k85 := hk_ 2 _ (by decide) k72
        have k86 := ha_
        refine lv_aload_n hx hb dX2_open_175 rfl (lv_at hl 0 rfl) ?_
        refine lv_aload_n hx hb dX2_open_176 rfl (lv_at hl 1 rfl) ?_
        have gj87 : GJ τ f73 u0 rq mq := ⟨g57_u0_9, g57_u0_10, g57_u0_9, g57_u0_10, g57_u0_9, g57_u0_10, g80_mq_0, g103_mq_1, z1, z16, ⟨trq, tmq⟩, ⟨k74, k75, k77, k78⟩, ⟨k83, k84, k85, k86⟩, ⟨k79, k80, k81, k82⟩, ⟨ig57_u0_9, ig57_u0_10, (iv_w ig57_u0_9 (by decide)), (iv_w ig57_u0_10 (by decide)), (iv_w ig57_u0_9 (by decide)), (iv_w ig57_u0_10 (by decide)), (iv_w ig80_mq_0 (by decide)), (iv_w ig103_mq_1 (by decide)), (iv_w iz1 (by decide)), (iv_w iz16 (by decide))⟩, ⟨by omega, by omega, by omega, by omega⟩, ⟨by omega, by omega, by omega, by omega⟩⟩
        obtain ⟨_, r88⟩ := t_rec tf73 hu0 (by decide) wf_20
        refine k_v (r_V C h hl (As := [.ref u1]) (rest := []) (s_X2_takeSteps l D G b0 τ f73 tf73 u0 hu0 u1 hu1 rq mq gj87) r88 (Cn := RX2) (T := TX2) (N := 11) rfl rfl mk_X2_takeSteps w_675 w_677 w_13 w_678 ⟨Nat.le_of_ble_eq_true rfl, Nat.le_of_ble_eq_true rfl⟩ rfl (Nat.le_of_ble_eq_true rfl) ⟨Nat.le_of_ble_eq_true rfl, Nat.le_of_ble_eq_true rfl⟩ rfl dX2_open_177) h (fun f90 H locs p91 h => ?_)
        obtain ⟨tf90, ogf90, gjf90⟩ := p91
        have of90 : Fr [20, 21, 22, 23, 24, 25, 20007, 20008, 20009, 20010, 20011, 22001, 22002, 22003, 22004, 23001, 23002, 23003, 23004] τ f f90 := Fr.tr of73 ogf90 (by decide) (by decide)
        have k92 := atp.fk k74 ogf90 hu0 (by decide) (by decide)
        have k93 := atp.fk k75 ogf90 hu0 (by decide) (by decide)
        have k94 := atp.fk k77 ogf90 hu0 (by decide) (by decide)
        have k95 := atp.fk k78 ogf90 hu0 (by decide) (by decide)
        have k96 := atp.fr k79 ogf90 tmq (by decide)
        have k97 := atp.fr k80 ogf90 tmq (by decide)
        have k98 := atp.fr k81 ogf90 tmq (by decide)
        have k99 := atp.fr k82 ogf90 tmq (by decide)
        have k100 := atp.fr k83 ogf90 trq (by decide)
        have k101 := atp.fr k84 ogf90 trq (by decide)
        have k102 := atp.fr k85 ogf90 trq (by decide)
        have k103 := atp.fr k86 ogf90 trq (by decide)
        obtain ⟨sxf90, syf90, rlf90, rbf90, rrf90, rtf90, mlf90, mbf90, mrf90, mtf90, -, ⟨kg3f90, kg2f90, ksxf90, ksyf90⟩, ⟨krlf90, krbf90, krrf90, krtf90⟩, ⟨kmlf90, kmbf90, kmrf90, kmtf90⟩, ⟨isxf90, isyf90, irlf90, irbf90, irrf90, irtf90, imlf90, imbf90, imrf90, imtf90⟩, ⟨gr1f90, gr2f90, gr3f90, gr4f90⟩, ⟨gr5f90, gr6f90, gr7f90, gr8f90⟩⟩ := gjf90
        refine lv_aload_n hx hb dX2_open_180 rfl (lv_at hl 0 rfl) ?_
        refine t_getr (tq := 21) C h tf90 hu0 (by decide) wf_20 rfl fl_X2_11 dX2_open_181 (fun q104 tq104 => ?_)
        refine lv_aload_n hx hb dX2_open_184 rfl (lv_at hl 0 rfl) ?_
        refine lv_aload_n hx hb dX2_open_185 rfl (lv_at hl 0 rfl) ?_
        refine t_getfd C h tf90 hu0 (by decide) wf_20 (v := .int sxf90) ksxf90 fl_X2_55 dX2_open_186 ?_
        refine lv_aload_n hx hb dX2_open_189 rfl (lv_at hl 0 rfl) ?_
        refine t_getfd C h tf90 hu0 (by decide) wf_20 (v := .int syf90) ksyf90 fl_X2_59 dX2_open_190 ?_
        obtain ⟨_, r105⟩ := t_rec tf90 hu0 (by decide) wf_20
        refine k_i (r_V C h hl (As := [.int sxf90, .int syf90]) (rest := [.ref q104]) (s_X2_cell l D G b0 τ f90 tf90 u0 hu0 sxf90 (iv_w isxf90 (by decide)) syf90 (iv_w isyf90 (by decide)) sxf90 isxf90 ksxf90 syf90 isyf90 ksyf90) r105 (Cn := RX2) (T := TX2) (N := 11) rfl rfl mk_X2_cell w_671 w_673 w_12 w_674 ⟨Nat.le_of_ble_eq_true rfl, Nat.le_of_ble_eq_true rfl⟩ rfl (Nat.le_of_ble_eq_true rfl) ⟨Nat.le_of_ble_eq_true rfl, Nat.le_of_ble_eq_true rfl⟩ rfl dX2_open_193) h (fun r106 f107 H locs p108 h => ?_)
        obtain ⟨ir106, tf107, ogf107, x0r106⟩ := p108
        have egf107 := Fr.nil2 ogf107
        subst egf107
        refine lv_lconst (v := 1) hx hb dX2_open_196 (by decide) ?_
        refine t_last C h tf90 of90 tq104 (by decide) (by decide) wf_21 fw_21 (ix_o (by omega)) dX2_open_197 (fun f109 H locs h tf109 of109 hq => ?_)
        have k110 := atp.tg kg3f90 hq hu0 (by decide)
        have k111 := atp.tg kg2f90 hq hu0 (by decide)
        have k112 := atp.tg ksxf90 hq hu0 (by decide)
        have k113 := atp.tg ksyf90 hq hu0 (by decide)
        have k114 := atp.tg kmlf90 hq tmq (by decide)
        have k115 := atp.tg kmbf90 hq tmq (by decide)
        have k116 := atp.tg kmrf90 hq tmq (by decide)
        have k117 := atp.tg kmtf90 hq tmq (by decide)
        have k118 := atp.tg krlf90 hq trq (by decide)
        have k119 := atp.tg krbf90 hq trq (by decide)
        have k120 := atp.tg krrf90 hq trq (by decide)
        have k121 := atp.tg krtf90 hq trq (by decide)
        have gj122 : GJ τ f109 u0 rq mq := ⟨sxf90, syf90, rlf90, rbf90, rrf90, rtf90, mlf90, mbf90, mrf90, mtf90, ⟨trq, tmq⟩, ⟨k110, k111, k112, k113⟩, ⟨k118, k119, k120, k121⟩, ⟨k114, k115, k116, k117⟩, ⟨isxf90, isyf90, irlf90, irbf90, irrf90, irtf90, imlf90, imbf90, imrf90, imtf90⟩, ⟨by omega, by omega, by omega, by omega⟩, ⟨by omega, by omega, by omega, by omega⟩⟩
        exact u_vret C h hr hQ (⟨tf109, of109, gj122⟩) (Nat.le_of_ble_eq_true rfl) (Nat.le_of_ble_eq_true rfl) dX2_open_198
      refine lv_aload_n hx hb dX2_open_80 rfl (lv_at hl 0 rfl) ?_
      refine t_getfd C h t_80 hu0 (by decide) wf_20 (v := .ref mq) k80_u0_2 fl_X2_21 dX2_open_81 ?_
      refine lv_iload hx hb dX2_open_84 (lv_at hl 2 rfl) ?_
      refine lv_if_eq (tgt := 93) hx hb dX2_open_86 (by decide) (fun c123 => ?_) (fun c123 => ?_)
      · have c124 : v57_5.toInt = 0 := congrArg Int32.toInt c123
        have i125 : iv v57_5 0 0 := iv_Q c124 iv57_5 (iv_k (x := 0) (k := 0) rfl) (by decide)
        refine lv_aload_n hx hb dX2_open_93 rfl (lv_at hl 0 rfl) ?_
        refine t_getfd C h t_80 hu0 (by decide) wf_20 (v := .int g57_u0_10) k80_u0_10 fl_X2_59 dX2_open_94 ?_
        refine lv_bipush (v := 60) hx hb dX2_open_97 (by decide) ?_
        refine i_subk hx hb dX2_open_99 ig57_u0_10 (k := 60) rfl (lo := (-60)) (hi := (-51)) (by decide) (fun z128 ez128 mz128 iz128 => ?_)
        refine t_put C h t_80 o_80 tmq (by decide) (by decide) (by decide) wf_22 fw_22 (k := 1) rfl flw_X2_63 (Or.inr ⟨_, _, _, rfl, rfl⟩) (v := .int z128) rfl rfl ⟨_, rfl, (iv_w iz128 (by decide))⟩ dX2_open_100 (fun f129 H locs h tf129 of129 hq ha_ hn_ hk_ => ?_)
        have k130 := atp.tg k80_u0_3 hq hu0 (by decide)
        have k131 := atp.tg k80_u0_2 hq hu0 (by decide)
        have k132 := atp.tg k80_rq_0 hq trq (by decide)
        have k133 := atp.tg k80_rq_1 hq trq (by decide)
        have k134 := atp.tg k80_rq_2 hq trq (by decide)
        have k135 := atp.tg k80_rq_3 hq trq (by decide)
        have k137 := hk_ 2 _ (by decide) k80_mq_2
        have k138 := hk_ 3 _ (by decide) k80_mq_3
        have k139 := atp.tg k80_u0_9 hq hu0 (by decide)
        have k140 := atp.tg k80_u0_10 hq hu0 (by decide)
        have k141 := hk_ 0 _ (by decide) k80_mq_0
        have k142 := ha_
        exact L103 ls f129 H locs z128 (lv_cons hl 0 rfl (lv_cons hl 1 rfl (lv_nil hl))) h tf129 of129 (iv_w iz128 (by decide)) k130 k131 k132 k133 k134 k135 k137 k138 k139 k140 k141 k142 (show g57_u0_9.toInt - 60 ≤ g80_mq_0.toInt by omega) (show g57_u0_10.toInt - 60 ≤ z128.toInt by omega)
      · have c126 : v57_5.toInt ≠ 0 := fun z_ => c123 (Int32.toInt_inj.mp z_)
        have i127 : iv v57_5 1 1 := iv_Nl c126 iv57_5 (by decide)
        refine lv_iconst (v := 0) hx hb dX2_open_89 (by decide) ?_
        refine lv_goto (tgt := 100) hx hb dX2_open_90 (by decide) ?_
        refine t_put C h t_80 o_80 tmq (by decide) (by decide) (by decide) wf_22 fw_22 (k := 1) rfl flw_X2_63 (Or.inr ⟨_, _, _, rfl, rfl⟩) (v := .int 0) rfl rfl ⟨_, rfl, ⟨by decide, by decide⟩⟩ dX2_open_100 (fun f143 H locs h tf143 of143 hq ha_ hn_ hk_ => ?_)
        have k144 := atp.tg k80_u0_3 hq hu0 (by decide)
        have k145 := atp.tg k80_u0_2 hq hu0 (by decide)
        have k146 := atp.tg k80_rq_0 hq trq (by decide)
        have k147 := atp.tg k80_rq_1 hq trq (by decide)
        have k148 := atp.tg k80_rq_2 hq trq (by decide)
        have k149 := atp.tg k80_rq_3 hq trq (by decide)
        have k151 := hk_ 2 _ (by decide) k80_mq_2
        have k152 := hk_ 3 _ (by decide) k80_mq_3
        have k153 := atp.tg k80_u0_9 hq hu0 (by decide)
        have k154 := atp.tg k80_u0_10 hq hu0 (by decide)
        have k155 := hk_ 0 _ (by decide) k80_mq_0
        have k156 := ha_
        exact L103 ls f143 H locs 0 (lv_cons hl 0 rfl (lv_cons hl 1 rfl (lv_nil hl))) h tf143 of143 ⟨by decide, by decide⟩ k144 k145 k146 k147 k148 k149 k151 k152 k153 k154 k155 k156 (show g57_u0_9.toInt - 60 ≤ g80_mq_0.toInt by omega) (show g57_u0_10.toInt - 60 ≤ 0 by omega)
    refine lv_aload_n hx hb dX2_open_57 rfl (lv_at hl 0 rfl) ?_
    refine t_getfd C h t_57 hu0 (by decide) wf_20 (v := .ref mq) k57_u0_2 fl_X2_21 dX2_open_58 ?_
    refine lv_iload hx hb dX2_open_61 (lv_at hl 2 rfl) ?_
    refine lv_if_eq (tgt := 70) hx hb dX2_open_63 (by decide) (fun c157 => ?_) (fun c157 => ?_)
    · have c158 : v57_4.toInt = 0 := congrArg Int32.toInt c157
      have i159 : iv v57_4 0 0 := iv_Q c158 iv57_4 (iv_k (x := 0) (k := 0) rfl) (by decide)
      refine lv_aload_n hx hb dX2_open_70 rfl (lv_at hl 0 rfl) ?_
      refine t_getfd C h t_57 hu0 (by decide) wf_20 (v := .int g57_u0_9) k57_u0_9 fl_X2_55 dX2_open_71 ?_
      refine lv_bipush (v := 60) hx hb dX2_open_74 (by decide) ?_
      refine i_subk hx hb dX2_open_76 ig57_u0_9 (k := 60) rfl (lo := (-60)) (hi := (-51)) (by decide) (fun z162 ez162 mz162 iz162 => ?_)
      refine t_put C h t_57 o_57 tmq (by decide) (by decide) (by decide) wf_22 fw_22 (k := 0) rfl flw_X2_60 (Or.inr ⟨_, _, _, rfl, rfl⟩) (v := .int z162) rfl rfl ⟨_, rfl, (iv_w iz162 (by decide))⟩ dX2_open_77 (fun f163 H locs h tf163 of163 hq ha_ hn_ hk_ => ?_)
      have k164 := atp.tg k57_u0_3 hq hu0 (by decide)
      have k165 := atp.tg k57_u0_2 hq hu0 (by decide)
      have k166 := atp.tg k57_rq_0 hq trq (by decide)
      have k167 := atp.tg k57_rq_1 hq trq (by decide)
      have k168 := atp.tg k57_rq_2 hq trq (by decide)
      have k169 := atp.tg k57_rq_3 hq trq (by decide)
      have k171 := hk_ 1 _ (by decide) k57_mq_1
      have k172 := hk_ 2 _ (by decide) k57_mq_2
      have k173 := hk_ 3 _ (by decide) k57_mq_3
      have k174 := atp.tg k57_u0_9 hq hu0 (by decide)
      have k175 := atp.tg k57_u0_10 hq hu0 (by decide)
      have k176 := ha_
      exact L80 ls f163 H locs z162 (lv_cons hl 0 rfl (lv_cons hl 1 rfl (lv_cons hl 3 rfl (lv_nil hl)))) h tf163 of163 (iv_w iz162 (by decide)) k164 k165 k166 k167 k168 k169 k171 k172 k173 k174 k175 k176 (show g57_u0_9.toInt - 60 ≤ z162.toInt by omega)
    · have c160 : v57_4.toInt ≠ 0 := fun z_ => c157 (Int32.toInt_inj.mp z_)
      have i161 : iv v57_4 1 1 := iv_Nl c160 iv57_4 (by decide)
      refine lv_iconst (v := 0) hx hb dX2_open_66 (by decide) ?_
      refine lv_goto (tgt := 77) hx hb dX2_open_67 (by decide) ?_
      refine t_put C h t_57 o_57 tmq (by decide) (by decide) (by decide) wf_22 fw_22 (k := 0) rfl flw_X2_60 (Or.inr ⟨_, _, _, rfl, rfl⟩) (v := .int 0) rfl rfl ⟨_, rfl, ⟨by decide, by decide⟩⟩ dX2_open_77 (fun f177 H locs h tf177 of177 hq ha_ hn_ hk_ => ?_)
      have k178 := atp.tg k57_u0_3 hq hu0 (by decide)
      have k179 := atp.tg k57_u0_2 hq hu0 (by decide)
      have k180 := atp.tg k57_rq_0 hq trq (by decide)
      have k181 := atp.tg k57_rq_1 hq trq (by decide)
      have k182 := atp.tg k57_rq_2 hq trq (by decide)
      have k183 := atp.tg k57_rq_3 hq trq (by decide)
      have k185 := hk_ 1 _ (by decide) k57_mq_1
      have k186 := hk_ 2 _ (by decide) k57_mq_2
      have k187 := hk_ 3 _ (by decide) k57_mq_3
      have k188 := atp.tg k57_u0_9 hq hu0 (by decide)
      have k189 := atp.tg k57_u0_10 hq hu0 (by decide)
      have k190 := ha_
      exact L80 ls f177 H locs 0 (lv_cons hl 0 rfl (lv_cons hl 1 rfl (lv_cons hl 3 rfl (lv_nil hl)))) h tf177 of177 ⟨by decide, by decide⟩ k178 k179 k180 k181 k182 k183 k185 k186 k187 k188 k189 k190 (show g57_u0_9.toInt - 60 ≤ 0 by omega)
  refine lv_aload_n hx hb dX2_open_0 rfl (lv_at hl 0 rfl) ?_
  have gj191 : GJ τ f u0 rq mq := ⟨sx, sy, rl, rb, rr, rt, ml, mb, mr, mt, ⟨trq, tmq⟩, ⟨kg3, kg2, ksx, ksy⟩, ⟨krl, krb, krr, krt⟩, ⟨kml, kmb, kmr, kmt⟩, ⟨isx, isy, irl, irb, irr, irt, iml, imb, imr, imt⟩, ⟨by omega, by omega, by omega, by omega⟩, ⟨by omega, by omega, by omega, by omega⟩⟩
  obtain ⟨_, r192⟩ := t_rec t hu0 (by decide) wf_20
  refine k_v (r_V C h hl (As := []) (rest := []) (s_X2_wipe l D G b0 τ f t u0 hu0 rq mq gj191) r192 (Cn := RX2) (T := TX2) (N := 11) rfl rfl mk_X2_wipe w_667 w_669 w_11 w_670 ⟨Nat.le_of_ble_eq_true rfl, Nat.le_of_ble_eq_true rfl⟩ rfl (Nat.le_of_ble_eq_true rfl) ⟨Nat.le_of_ble_eq_true rfl, Nat.le_of_ble_eq_true rfl⟩ rfl dX2_open_1) h (fun f194 H locs p195 h => ?_)
  obtain ⟨tf194, ogf194⟩ := p195
  have of194 : Fr [20, 21, 22, 23, 24, 25, 20007, 20008, 20009, 20010, 20011, 22001, 22002, 22003, 22004, 23001, 23002, 23003, 23004] τ f f194 := Fr.tr o ogf194 (by decide) (by decide)
  have k196 := atp.fr kg3 ogf194 hu0 (by decide)
  have k197 := atp.fr kg2 ogf194 hu0 (by decide)
  have k198 := atp.fr ksx ogf194 hu0 (by decide)
  have k199 := atp.fr ksy ogf194 hu0 (by decide)
  have k200 := atp.fr krl ogf194 trq (by decide)
  have k201 := atp.fr krb ogf194 trq (by decide)
  have k202 := atp.fr krr ogf194 trq (by decide)
  have k203 := atp.fr krt ogf194 trq (by decide)
  have k204 := atp.fr kml ogf194 tmq (by decide)
  have k205 := atp.fr kmb ogf194 tmq (by decide)
  have k206 := atp.fr kmr ogf194 tmq (by decide)
  have k207 := atp.fr kmt ogf194 tmq (by decide)
  refine lv_aload_n hx hb dX2_open_4 rfl (lv_at hl 0 rfl) ?_
  refine lv_iload_n hx hb dX2_open_5 rfl (lv_at hl 2 rfl) ?_
  refine t_put C h tf194 of194 hu0 (by decide) (by decide) (by decide) wf_20 fw_20 (k := 8) rfl flw_X2_46 (Or.inr ⟨_, _, _, rfl, rfl⟩) (v := .int u2) rfl rfl ⟨_, rfl, hu2⟩ dX2_open_6 (fun f208 H locs h tf208 of208 hq ha_ hn_ hk_ => ?_)
  have k209 := hk_ 3 _ (by decide) k196
  have k210 := hk_ 2 _ (by decide) k197
  have k211 := hk_ 9 _ (by decide) k198
  have k212 := hk_ 10 _ (by decide) k199
  have k213 := atp.tg k200 hq trq (by decide)
  have k214 := atp.tg k201 hq trq (by decide)
  have k215 := atp.tg k202 hq trq (by decide)
  have k216 := atp.tg k203 hq trq (by decide)
  have k217 := atp.tg k204 hq tmq (by decide)
  have k218 := atp.tg k205 hq tmq (by decide)
  have k219 := atp.tg k206 hq tmq (by decide)
  have k220 := atp.tg k207 hq tmq (by decide)
  have k221 := ha_
  refine lv_aload_n hx hb dX2_open_9 rfl (lv_at hl 0 rfl) ?_
  refine lv_aload_n hx hb dX2_open_10 rfl (lv_at hl 1 rfl) ?_
  refine t_geti C h tf208 hu1 (by decide) wf_1 rfl fl_X2_50 dX2_open_11 (fun z222 iz222 => ?_)
  refine t_put C h tf208 of208 hu0 (by decide) (by decide) (by decide) wf_20 fw_20 (k := 9) rfl flw_X2_55 (Or.inr ⟨_, _, _, rfl, rfl⟩) (v := .int z222) rfl rfl ⟨_, rfl, iz222⟩ dX2_open_14 (fun f223 H locs h tf223 of223 hq ha_ hn_ hk_ => ?_)
  have k224 := hk_ 3 _ (by decide) k209
  have k225 := hk_ 2 _ (by decide) k210
  have k227 := hk_ 10 _ (by decide) k212
  have k228 := atp.tg k213 hq trq (by decide)
  have k229 := atp.tg k214 hq trq (by decide)
  have k230 := atp.tg k215 hq trq (by decide)
  have k231 := atp.tg k216 hq trq (by decide)
  have k232 := atp.tg k217 hq tmq (by decide)
  have k233 := atp.tg k218 hq tmq (by decide)
  have k234 := atp.tg k219 hq tmq (by decide)
  have k235 := atp.tg k220 hq tmq (by decide)
  have k236 := ha_
  refine lv_aload_n hx hb dX2_open_17 rfl (lv_at hl 0 rfl) ?_
  refine lv_aload_n hx hb dX2_open_18 rfl (lv_at hl 1 rfl) ?_
  refine t_geti C h tf223 hu1 (by decide) wf_1 rfl fl_X2_56 dX2_open_19 (fun z237 iz237 => ?_)
  refine t_put C h tf223 of223 hu0 (by decide) (by decide) (by decide) wf_20 fw_20 (k := 10) rfl flw_X2_59 (Or.inr ⟨_, _, _, rfl, rfl⟩) (v := .int z237) rfl rfl ⟨_, rfl, iz237⟩ dX2_open_22 (fun f238 H locs h tf238 of238 hq ha_ hn_ hk_ => ?_)
  have k239 := hk_ 3 _ (by decide) k224
  have k240 := hk_ 2 _ (by decide) k225
  have k242 := atp.tg k228 hq trq (by decide)
  have k243 := atp.tg k229 hq trq (by decide)
  have k244 := atp.tg k230 hq trq (by decide)
  have k245 := atp.tg k231 hq trq (by decide)
  have k246 := atp.tg k232 hq tmq (by decide)
  have k247 := atp.tg k233 hq tmq (by decide)
  have k248 := atp.tg k234 hq tmq (by decide)
  have k249 := atp.tg k235 hq tmq (by decide)
  have k250 := hk_ 9 _ (by decide) k236
  have k251 := ha_
  refine lv_iload_n hx hb dX2_open_25 rfl (lv_at hl 3 rfl) ?_
  refine lv_if_eq (tgt := 34) hx hb dX2_open_26 (by decide) (fun c252 => ?_) (fun c252 => ?_)
  · have c253 : u3.toInt = 0 := congrArg Int32.toInt c252
    have i254 : iv u3 0 0 := iv_Q c253 hu3 (iv_k (x := 0) (k := 0) rfl) (by decide)
    refine lv_iconst (v := 1) hx hb dX2_open_34 (by decide) ?_
    refine lv_goto (tgt := 39) hx hb dX2_open_35 (by decide) ?_
    refine lv_istore (lv' := [(4, .int 1), (0, .ref u0), (1, .ref u1), (2, .int u2), (3, .int u3)]) hx hb dX2_open_39 hl (by decide) rfl (fun ls hl => ?_)
    refine lv_iload_n hx hb dX2_open_41 rfl (lv_at hl 4 rfl) ?_
    refine lv_if_eq (tgt := 50) hx hb dX2_open_42 (by decide) (fun c256 => ?_) (fun c256 => ?_)
    · have c257 : u3.toInt = 0 := congrArg Int32.toInt c256
      refine lv_iconst (v := 1) hx hb dX2_open_50 (by decide) ?_
      refine lv_goto (tgt := 55) hx hb dX2_open_51 (by decide) ?_
      refine lv_istore (lv' := [(5, .int 1), (4, .int 1), (0, .ref u0), (1, .ref u1), (2, .int u2), (3, .int u3)]) hx hb dX2_open_55 hl (by decide) rfl (fun ls hl => ?_)
      exact L57 ls f238 H locs 1 1 z222 z237 (lv_cons hl 2 rfl (lv_cons hl 3 rfl (lv_cons hl 1 rfl (lv_cons hl 0 rfl (lv_nil hl))))) h tf238 of238 ⟨by decide, by decide⟩ ⟨by decide, by decide⟩ iz222 iz237 k239 k240 k242 k243 k244 k245 k246 k247 k248 k249 k250 k251
    · have c258 : u3.toInt ≠ 0 := fun z_ => c256 (Int32.toInt_inj.mp z_)
      exact (iv_cn_ c258 i254 (iv_k (x := 0) (k := 0) rfl) (by decide)).elim
  · have c255 : u3.toInt ≠ 0 := fun z_ => c252 (Int32.toInt_inj.mp z_)
    refine lv_iload_n hx hb dX2_open_29 rfl (lv_at hl 3 rfl) ?_
    refine lv_iconst (v := 3) hx hb dX2_open_30 (by decide) ?_
    refine lv_icmp_ne (tgt := 38) hx hb dX2_open_31 (by decide) (fun c259 => ?_) (fun c259 => ?_)
    · have c260 : u3.toInt ≠ 3 := fun z_ => c259 (Int32.toInt_inj.mp z_)
      refine lv_iconst (v := 0) hx hb dX2_open_38 (by decide) ?_
      refine lv_istore (lv' := [(4, .int 0), (0, .ref u0), (1, .ref u1), (2, .int u2), (3, .int u3)]) hx hb dX2_open_39 hl (by decide) rfl (fun ls hl => ?_)
      refine lv_iload_n hx hb dX2_open_41 rfl (lv_at hl 4 rfl) ?_
      refine lv_if_eq (tgt := 50) hx hb dX2_open_42 (by decide) (fun c263 => ?_) (fun c263 => ?_)
      · have c264 : u3.toInt = 0 := congrArg Int32.toInt c263
        have i265 : iv u3 0 0 := iv_Q c264 hu3 (iv_k (x := 0) (k := 0) rfl) (by decide)
        refine lv_iconst (v := 1) hx hb dX2_open_50 (by decide) ?_
        refine lv_goto (tgt := 55) hx hb dX2_open_51 (by decide) ?_
        refine lv_istore (lv' := [(5, .int 1), (4, .int 0), (0, .ref u0), (1, .ref u1), (2, .int u2), (3, .int u3)]) hx hb dX2_open_55 hl (by decide) rfl (fun ls hl => ?_)
        exact L57 ls f238 H locs 0 1 z222 z237 (lv_cons hl 2 rfl (lv_cons hl 3 rfl (lv_cons hl 1 rfl (lv_cons hl 0 rfl (lv_nil hl))))) h tf238 of238 ⟨by decide, by decide⟩ ⟨by decide, by decide⟩ iz222 iz237 k239 k240 k242 k243 k244 k245 k246 k247 k248 k249 k250 k251
      · have c266 : u3.toInt ≠ 0 := fun z_ => c263 (Int32.toInt_inj.mp z_)
        refine lv_iload_n hx hb dX2_open_45 rfl (lv_at hl 4 rfl) ?_
        refine lv_iconst (v := 1) hx hb dX2_open_46 (by decide) ?_
        refine lv_icmp_ne (tgt := 54) hx hb dX2_open_47 (by decide) (fun c267 => ?_) (fun c267 => ?_)
        · have c268 : u3.toInt ≠ 1 := fun z_ => c267 (Int32.toInt_inj.mp z_)
          refine lv_iconst (v := 0) hx hb dX2_open_54 (by decide) ?_
          refine lv_istore (lv' := [(5, .int 0), (4, .int 0), (0, .ref u0), (1, .ref u1), (2, .int u2), (3, .int u3)]) hx hb dX2_open_55 hl (by decide) rfl (fun ls hl => ?_)
          exact L57 ls f238 H locs 0 0 z222 z237 (lv_cons hl 2 rfl (lv_cons hl 3 rfl (lv_cons hl 1 rfl (lv_cons hl 0 rfl (lv_nil hl))))) h tf238 of238 ⟨by decide, by decide⟩ ⟨by decide, by decide⟩ iz222 iz237 k239 k240 k242 k243 k244 k245 k246 k247 k248 k249 k250 k251
        · have c269 : u3.toInt = 1 := congrArg Int32.toInt c267
          have i270 : iv u3 1 1 := iv_Q c269 hu3 (iv_k (x := 1) (k := 1) rfl) (by decide)
          refine lv_iconst (v := 1) hx hb dX2_open_50 (by decide) ?_
          refine lv_goto (tgt := 55) hx hb dX2_open_51 (by decide) ?_
          refine lv_istore (lv' := [(5, .int 1), (4, .int 0), (0, .ref u0), (1, .ref u1), (2, .int u2), (3, .int u3)]) hx hb dX2_open_55 hl (by decide) rfl (fun ls hl => ?_)
          exact L57 ls f238 H locs 0 1 z222 z237 (lv_cons hl 2 rfl (lv_cons hl 3 rfl (lv_cons hl 1 rfl (lv_cons hl 0 rfl (lv_nil hl))))) h tf238 of238 ⟨by decide, by decide⟩ ⟨by decide, by decide⟩ iz222 iz237 k239 k240 k242 k243 k244 k245 k246 k247 k248 k249 k250 k251
    · have c261 : u3.toInt = 3 := congrArg Int32.toInt c259
      have i262 : iv u3 3 3 := iv_Q c261 hu3 (iv_k (x := 3) (k := 3) rfl) (by decide)
      refine lv_iconst (v := 1) hx hb dX2_open_34 (by decide) ?_
      refine lv_goto (tgt := 39) hx hb dX2_open_35 (by decide) ?_
      refine lv_istore (lv' := [(4, .int 1), (0, .ref u0), (1, .ref u1), (2, .int u2), (3, .int u3)]) hx hb dX2_open_39 hl (by decide) rfl (fun ls hl => ?_)
      refine lv_iload_n hx hb dX2_open_41 rfl (lv_at hl 4 rfl) ?_
      refine lv_if_eq (tgt := 50) hx hb dX2_open_42 (by decide) (fun c271 => ?_) (fun c271 => ?_)
      · have c272 : u3.toInt = 0 := congrArg Int32.toInt c271
        exact (iv_cq_ c272 i262 (iv_k (x := 0) (k := 0) rfl) (by decide)).elim
      · have c273 : u3.toInt ≠ 0 := fun z_ => c271 (Int32.toInt_inj.mp z_)
        refine lv_iload_n hx hb dX2_open_45 rfl (lv_at hl 4 rfl) ?_
        refine lv_iconst (v := 1) hx hb dX2_open_46 (by decide) ?_
        refine lv_icmp_ne (tgt := 54) hx hb dX2_open_47 (by decide) (fun c274 => ?_) (fun c274 => ?_)
        · have c275 : u3.toInt ≠ 1 := fun z_ => c274 (Int32.toInt_inj.mp z_)
          refine lv_iconst (v := 0) hx hb dX2_open_54 (by decide) ?_
          refine lv_istore (lv' := [(5, .int 0), (4, .int 1), (0, .ref u0), (1, .ref u1), (2, .int u2), (3, .int u3)]) hx hb dX2_open_55 hl (by decide) rfl (fun ls hl => ?_)
          exact L57 ls f238 H locs 1 0 z222 z237 (lv_cons hl 2 rfl (lv_cons hl 3 rfl (lv_cons hl 1 rfl (lv_cons hl 0 rfl (lv_nil hl))))) h tf238 of238 ⟨by decide, by decide⟩ ⟨by decide, by decide⟩ iz222 iz237 k239 k240 k242 k243 k244 k245 k246 k247 k248 k249 k250 k251
        · have c276 : u3.toInt = 1 := congrArg Int32.toInt c274
          exact (iv_cq_ c276 i262 (iv_k (x := 1) (k := 1) rfl) (by decide)).elim
abbrev rm_s_X2_close : Room := { frames := 1, cells := 0, slots := 0, locals := 18 }
set_option maxRecDepth 100000 in
set_option maxHeartbeats 4000000 in
theorem s_X2_close (l : Launch) (D : va_G) (G : Nat → Nat) (b0 : Nat) (τ : Nat → Nat) (f : hM) (t : TI G 9 τ f) (u0 : Nat) (hu0 : τ u0 = 20) (u1 : Int32) (hu1 : iv u1 0 70) (u2 : Int32) (hu2 : iv u2 0 70) (rq mq : Nat) (hGJ : GJ τ f u0 rq mq) : mV l yX2_close cX2_close 3 rm_s_X2_close D G b0 f [.ref u0, .int u1, .int u2] (fun f1 => TI G 9 τ f1 ∧ Fr [22, 22003, 22004] τ f f1 ∧ GJ τ f1 u0 rq mq) := by
  refine met2 (own := RX2) (by decide) rfl (Nat.le_of_ble_eq_true rfl) ?_
  intro p e s m args below meth c ls Q hQ C hr hini hl h
  have hl : lv_has ls 3 [(0, .ref u0), (1, .int u1), (2, .int u2)] := hl
  obtain ⟨hx, hb, hml, hown, hts, hE0, hlk⟩ := id C
  have o := Fr.rf [22, 22003, 22004] τ f
  obtain ⟨sx, sy, rl, rb, rr, rt, ml, mb, mr, mt, ⟨trq, tmq⟩, ⟨kg3, kg2, ksx, ksy⟩, ⟨krl, krb, krr, krt⟩, ⟨kml, kmb, kmr, kmt⟩, ⟨isx, isy, irl, irb, irr, irt, iml, imb, imr, imt⟩, ⟨gr1, gr2, gr3, gr4⟩, ⟨gr5, gr6, gr7, gr8⟩⟩ := hGJ
  refine lv_aload_n hx hb dX2_close_0 rfl (lv_at hl 0 rfl) ?_
  refine t_getfd C h t hu0 (by decide) wf_20 (v := .ref mq) kg2 fl_X2_21 dX2_close_1 ?_
  refine lv_aload_n hx hb dX2_close_4 rfl (lv_at hl 0 rfl) ?_
  refine t_getfd C h t hu0 (by decide) wf_20 (v := .ref mq) kg2 fl_X2_21 dX2_close_5 ?_
  refine t_getfd C h t tmq (by decide) wf_22 (v := .int mr) kmr fl_X2_66 dX2_close_8 ?_
  refine lv_iload_n hx hb dX2_close_11 rfl (lv_at hl 1 rfl) ?_
  refine va_mmin hx hb (hml.trans hl.1.symm) hown (hts _ w_696) (hts _ w_548) (hts _ w_112) (hts _ w_549) (Nat.le_of_ble_eq_true rfl) (Nat.le_of_ble_eq_true rfl) (Nat.le_of_ble_eq_true rfl) (Nat.le_of_ble_eq_true rfl) dX2_close_12 (i_min imr hu1 (lo := (-60)) (hi := 69) (by decide) (fun z1 mz1 iz1 => ?_))
  refine t_put C h t o tmq (by decide) (by decide) (by decide) wf_22 fw_22 (k := 2) rfl flw_X2_66 (Or.inr ⟨_, _, _, rfl, rfl⟩) (v := .int z1) rfl rfl ⟨_, rfl, iz1⟩ dX2_close_15 (fun f2 H locs h tf2 of2 hq ha_ hn_ hk_ => ?_)
  have k3 := atp.tg kg3 hq hu0 (by decide)
  have k4 := atp.tg kg2 hq hu0 (by decide)
  have k5 := atp.tg ksx hq hu0 (by decide)
  have k6 := atp.tg ksy hq hu0 (by decide)
  have k7 := atp.tg krl hq trq (by decide)
  have k8 := atp.tg krb hq trq (by decide)
  have k9 := atp.tg krr hq trq (by decide)
  have k10 := atp.tg krt hq trq (by decide)
  have k11 := hk_ 0 _ (by decide) kml
  have k12 := hk_ 1 _ (by decide) kmb
  have k14 := hk_ 3 _ (by decide) kmt
  have k15 := ha_
  refine lv_aload_n hx hb dX2_close_18 rfl (lv_at hl 0 rfl) ?_
  refine t_getfd C h tf2 hu0 (by decide) wf_20 (v := .ref mq) k4 fl_X2_21 dX2_close_19 ?_
  refine lv_aload_n hx hb dX2_close_22 rfl (lv_at hl 0 rfl) ?_
  refine t_getfd C h tf2 hu0 (by decide) wf_20 (v := .ref mq) k4 fl_X2_21 dX2_close_23 ?_
  refine t_getfd C h tf2 tmq (by decide) wf_22 (v := .int mt) k14 fl_X2_69 dX2_close_26 ?_
  refine lv_iload_n hx hb dX2_close_29 rfl (lv_at hl 2 rfl) ?_
  refine va_mmin hx hb (hml.trans hl.1.symm) hown (hts _ w_696) (hts _ w_548) (hts _ w_112) (hts _ w_549) (Nat.le_of_ble_eq_true rfl) (Nat.le_of_ble_eq_true rfl) (Nat.le_of_ble_eq_true rfl) (Nat.le_of_ble_eq_true rfl) dX2_close_30 (i_min imt hu2 (lo := (-60)) (hi := 69) (by decide) (fun z16 mz16 iz16 => ?_))
  refine t_put C h tf2 of2 tmq (by decide) (by decide) (by decide) wf_22 fw_22 (k := 3) rfl flw_X2_69 (Or.inr ⟨_, _, _, rfl, rfl⟩) (v := .int z16) rfl rfl ⟨_, rfl, iz16⟩ dX2_close_33 (fun f17 H locs h tf17 of17 hq ha_ hn_ hk_ => ?_)
  have k18 := atp.tg k3 hq hu0 (by decide)
  have k19 := atp.tg k4 hq hu0 (by decide)
  have k20 := atp.tg k5 hq hu0 (by decide)
  have k21 := atp.tg k6 hq hu0 (by decide)
  have k22 := atp.tg k7 hq trq (by decide)
  have k23 := atp.tg k8 hq trq (by decide)
  have k24 := atp.tg k9 hq trq (by decide)
  have k25 := atp.tg k10 hq trq (by decide)
  have k26 := hk_ 0 _ (by decide) k11
  have k27 := hk_ 1 _ (by decide) k12
  have k29 := hk_ 2 _ (by decide) k15
  have k30 := ha_
  have gj31 : GJ τ f17 u0 rq mq := ⟨sx, sy, rl, rb, rr, rt, ml, mb, z1, z16, ⟨trq, tmq⟩, ⟨k18, k19, k20, k21⟩, ⟨k22, k23, k24, k25⟩, ⟨k26, k27, k29, k30⟩, ⟨isx, isy, irl, irb, irr, irt, iml, imb, iz1, iz16⟩, ⟨by omega, by omega, by omega, by omega⟩, ⟨by omega, by omega, by omega, by omega⟩⟩
  exact u_vret C h hr hQ (⟨tf17, of17, gj31⟩) (Nat.le_of_ble_eq_true rfl) (Nat.le_of_ble_eq_true rfl) dX2_close_36
abbrev rm_s_X2_settled : Room := { frames := 1, cells := 0, slots := 0, locals := 17 }
set_option maxRecDepth 100000 in
set_option maxHeartbeats 4000000 in
theorem s_X2_settled (l : Launch) (D : va_G) (G : Nat → Nat) (b0 : Nat) (τ : Nat → Nat) (f : hM) (t : TI G 9 τ f) (u0 : Nat) (hu0 : τ u0 = 20) (u1 : Int64) : mL l yX2_settled cX2_settled 3 rm_s_X2_settled D G b0 f [.ref u0, .long u1] (fun r f1 => TI G 9 τ f1 ∧ Fr [] τ f f1) := by
  refine met2 (own := RX2) (by decide) rfl (Nat.le_of_ble_eq_true rfl) ?_
  intro p e s m args below meth c ls Q hQ C hr hini hl h
  have hl : lv_has ls 3 [(0, .ref u0), (1, .long u1)] := hl
  obtain ⟨hx, hb, hml, hown, hts, hE0, hlk⟩ := id C
  have o := Fr.rf [] τ f
  refine lv_aload_n hx hb dX2_settled_0 rfl (lv_at hl 0 rfl) ?_
  refine t_geti C h t hu0 (by decide) wf_20 rfl fl_X2_46 dX2_settled_1 (fun z1 iz1 => ?_)
  refine lv_if_ne (tgt := 13) hx hb dX2_settled_4 (by decide) (fun c2 => ?_) (fun c2 => ?_)
  · have c3 : z1.toInt ≠ 0 := fun z_ => c2 (Int32.toInt_inj.mp z_)
    have i4 : iv z1 1 3 := iv_Nl c3 iz1 (by decide)
    refine lv_aload_n hx hb dX2_settled_13 rfl (lv_at hl 0 rfl) ?_
    refine t_geti C h t hu0 (by decide) wf_20 rfl fl_X2_46 dX2_settled_14 (fun z7 iz7 => ?_)
    refine lv_iconst (v := 3) hx hb dX2_settled_17 (by decide) ?_
    refine lv_icmp_ne (tgt := 29) hx hb dX2_settled_18 (by decide) (fun c8 => ?_) (fun c8 => ?_)
    · have c9 : z7.toInt ≠ 3 := fun z_ => c8 (Int32.toInt_inj.mp z_)
      have i10 : iv z7 0 2 := iv_Nh c9 iz7 (by decide)
      refine lv_lload_n hx hb dX2_settled_29 rfl (lv_at hl 1 rfl) ?_
      exact u_lret C h hr hQ (⟨t, o⟩) (Nat.le_of_ble_eq_true rfl) (Nat.le_of_ble_eq_true rfl) dX2_settled_30
    · have c11 : z7.toInt = 3 := congrArg Int32.toInt c8
      have i12 : iv z7 3 3 := iv_Q c11 iz7 (iv_k (x := 3) (k := 3) rfl) (by decide)
      refine lv_lload_n hx hb dX2_settled_21 rfl (lv_at hl 1 rfl) ?_
      refine lv_lconst (v := 1) hx hb dX2_settled_22 (by decide) ?_
      refine va_mmin_long hx hb (hml.trans hl.1.symm) hown (hts _ w_706) (hts _ w_707) (hts _ w_112) (hts _ w_708) (Nat.le_of_ble_eq_true rfl) (Nat.le_of_ble_eq_true rfl) (Nat.le_of_ble_eq_true rfl) (Nat.le_of_ble_eq_true rfl) dX2_settled_23 (lv_topl (fun w13 ew13 => ?_))
      refine lv_goto (tgt := 30) hx hb dX2_settled_26 (by decide) ?_
      exact u_lret C h hr hQ (⟨t, o⟩) (Nat.le_of_ble_eq_true rfl) (Nat.le_of_ble_eq_true rfl) dX2_settled_30
  · have c5 : z1.toInt = 0 := congrArg Int32.toInt c2
    have i6 : iv z1 0 0 := iv_Q c5 iz1 (iv_k (x := 0) (k := 0) rfl) (by decide)
    refine lv_lload_n hx hb dX2_settled_7 rfl (lv_at hl 1 rfl) ?_
    refine lv_ldc2 (v := 1000003) hx hb hown (hts _ w_705) dX2_settled_8 ?_
    refine lv_lrem hx hb dX2_settled_11 (by decide) (i_topl (lrem_iv (k := 1000003) rfl (by decide) (lo := -1000002) (hi := 1000002) (by decide)) (fun w14 ew14 iw14 => ?_))
    exact u_lret C h hr hQ (⟨t, o⟩) (Nat.le_of_ble_eq_true rfl) (Nat.le_of_ble_eq_true rfl) dX2_settled_12
abbrev rm_s_X2_widen : Room := { frames := 1, cells := 0, slots := 0, locals := 18 }
set_option maxRecDepth 100000 in
set_option maxHeartbeats 4000000 in
theorem s_X2_widen (l : Launch) (D : va_G) (G : Nat → Nat) (b0 : Nat) (τ : Nat → Nat) (f : hM) (t : TI G 9 τ f) (u0 : Nat) (hu0 : τ u0 = 20) (rq mq : Nat) (hGJ : GJ τ f u0 rq mq) : mV l yX2_widen cX2_widen 1 rm_s_X2_widen D G b0 f [.ref u0] (fun f1 => TI G 9 τ f1 ∧ Fr [23, 23001, 23002, 23003, 23004] τ f f1 ∧ GJ τ f1 u0 rq mq) := by
  refine met2 (own := RX2) (by decide) rfl (Nat.le_of_ble_eq_true rfl) ?_
  intro p e s m args below meth c ls Q hQ C hr hini hl h
  have hl : lv_has ls 1 [(0, .ref u0)] := hl
  obtain ⟨hx, hb, hml, hown, hts, hE0, hlk⟩ := id C
  have o := Fr.rf [23, 23001, 23002, 23003, 23004] τ f
  obtain ⟨sx, sy, rl, rb, rr, rt, ml, mb, mr, mt, ⟨trq, tmq⟩, ⟨kg3, kg2, ksx, ksy⟩, ⟨krl, krb, krr, krt⟩, ⟨kml, kmb, kmr, kmt⟩, ⟨isx, isy, irl, irb, irr, irt, iml, imb, imr, imt⟩, ⟨gr1, gr2, gr3, gr4⟩, ⟨gr5, gr6, gr7, gr8⟩⟩ := hGJ
  have L37 : ∀ (ls : Array Slot) (f_37 : hM) (H : Heap) (locs : List Loc) (g37_rq_0 : Int32), lv_has ls 1 [(0, .ref u0)] → hw D b0 s.heap f_37 H locs → TI G 9 τ f_37 → Fr [23, 23001, 23002, 23003, 23004] τ f f_37 → iv g37_rq_0 (-60) 69 → atp f_37 u0 (fd 3 (.ref rq)) → atp f_37 u0 (fd 2 (.ref mq)) → atp f_37 u0 (fd 9 (.int sx)) → atp f_37 u0 (fd 10 (.int sy)) → atp f_37 rq (fd 0 (.int g37_rq_0)) → atp f_37 rq (fd 1 (.int rb)) → atp f_37 rq (fd 2 (.int rr)) → atp f_37 rq (fd 3 (.int rt)) → atp f_37 mq (fd 0 (.int ml)) → atp f_37 mq (fd 1 (.int mb)) → atp f_37 mq (fd 2 (.int mr)) → atp f_37 mq (fd 3 (.int mt)) → sx.toInt - 60 ≤ g37_rq_0.toInt → W p l e rm_s_X2_widen s m args below meth c H locs 0 0 Q (F0 m 37 ls []) := by
    intro ls f_37 H locs g37_rq_0 hl h t_37 o_37 ig37_rq_0 k37_u0_3 k37_u0_2 k37_u0_9 k37_u0_10 k37_rq_0 k37_rq_1 k37_rq_2 k37_rq_3 k37_mq_0 k37_mq_1 k37_mq_2 k37_mq_3 hv37_0
    have L73 : ∀ (ls : Array Slot) (f_73 : hM) (H : Heap) (locs : List Loc) (g73_rq_2 : Int32), lv_has ls 1 [(0, .ref u0)] → hw D b0 s.heap f_73 H locs → TI G 9 τ f_73 → Fr [23, 23001, 23002, 23003, 23004] τ f f_73 → iv g73_rq_2 (-60) 69 → atp f_73 u0 (fd 3 (.ref rq)) → atp f_73 u0 (fd 2 (.ref mq)) → atp f_73 u0 (fd 9 (.int sx)) → atp f_73 u0 (fd 10 (.int sy)) → atp f_73 rq (fd 0 (.int g37_rq_0)) → atp f_73 rq (fd 1 (.int rb)) → atp f_73 rq (fd 2 (.int g73_rq_2)) → atp f_73 rq (fd 3 (.int rt)) → atp f_73 mq (fd 0 (.int ml)) → atp f_73 mq (fd 1 (.int mb)) → atp f_73 mq (fd 2 (.int mr)) → atp f_73 mq (fd 3 (.int mt)) → g73_rq_2.toInt ≤ sx.toInt + 60 → W p l e rm_s_X2_widen s m args below meth c H locs 0 0 Q (F0 m 73 ls []) := by
      intro ls f_73 H locs g73_rq_2 hl h t_73 o_73 ig73_rq_2 k73_u0_3 k73_u0_2 k73_u0_9 k73_u0_10 k73_rq_0 k73_rq_1 k73_rq_2 k73_rq_3 k73_mq_0 k73_mq_1 k73_mq_2 k73_mq_3 hv73_0
      refine lv_aload_n hx hb dX2_widen_73 rfl (lv_at hl 0 rfl) ?_
      refine t_geti C h t_73 hu0 (by decide) wf_20 rfl fl_X2_92 dX2_widen_74 (fun z1 iz1 => ?_)
      refine lv_bipush (v := 56) hx hb dX2_widen_77 (by decide) ?_
      refine lv_iand hx hb dX2_widen_79 (i_top (iv_and (k := 56) rfl (by decide)) (fun z2 ez2 iz2 => ?_))
      refine lv_if_eq (tgt := 109) hx hb dX2_widen_80 (by decide) (fun c3 => ?_) (fun c3 => ?_)
      · have c4 : z2.toInt = 0 := congrArg Int32.toInt c3
        have i5 : iv z2 0 0 := iv_Q c4 iz2 (iv_k (x := 0) (k := 0) rfl) (by decide)
        refine lv_aload_n hx hb dX2_widen_109 rfl (lv_at hl 0 rfl) ?_
        refine t_geti C h t_73 hu0 (by decide) wf_20 rfl fl_X2_92 dX2_widen_110 (fun z8 iz8 => ?_)
        refine lv_sipush (v := 131) hx hb dX2_widen_113 (by decide) ?_
        refine lv_iand hx hb dX2_widen_116 (i_top (iv_and (k := 131) rfl (by decide)) (fun z9 ez9 iz9 => ?_))
        refine lv_if_eq (tgt := 146) hx hb dX2_widen_117 (by decide) (fun c10 => ?_) (fun c10 => ?_)
        · have c11 : z9.toInt = 0 := congrArg Int32.toInt c10
          have i12 : iv z9 0 0 := iv_Q c11 iz9 (iv_k (x := 0) (k := 0) rfl) (by decide)
          have gj15 : GJ τ f_73 u0 rq mq := ⟨sx, sy, g37_rq_0, rb, g73_rq_2, rt, ml, mb, mr, mt, ⟨trq, tmq⟩, ⟨k73_u0_3, k73_u0_2, k73_u0_9, k73_u0_10⟩, ⟨k73_rq_0, k73_rq_1, k73_rq_2, k73_rq_3⟩, ⟨k73_mq_0, k73_mq_1, k73_mq_2, k73_mq_3⟩, ⟨isx, isy, ig37_rq_0, irb, ig73_rq_2, irt, iml, imb, imr, imt⟩, ⟨by omega, by omega, by omega, by omega⟩, ⟨by omega, by omega, by omega, by omega⟩⟩
          exact u_vret C h hr hQ (⟨t_73, o_73, gj15⟩) (Nat.le_of_ble_eq_true rfl) (Nat.le_of_ble_eq_true rfl) dX2_widen_146
        · have c13 : z9.toInt ≠ 0 := fun z_ => c10 (Int32.toInt_inj.mp z_)
          have i14 : iv z9 1 131 := iv_Nl c13 iz9 (by decide)
          refine lv_aload_n hx hb dX2_widen_120 rfl (lv_at hl 0 rfl) ?_
          refine t_getfd C h t_73 hu0 (by decide) wf_20 (v := .ref rq) k73_u0_3 fl_X2_25 dX2_widen_121 ?_
          refine lv_aload_n hx hb dX2_widen_124 rfl (lv_at hl 0 rfl) ?_
          refine t_getfd C h t_73 hu0 (by decide) wf_20 (v := .ref rq) k73_u0_3 fl_X2_25 dX2_widen_125 ?_
          refine t_getfd C h t_73 trq (by decide) wf_23 (v := .int rt) k73_rq_3 fl_X2_69 dX2_widen_128 ?_
          refine lv_iconst (v := 1) hx hb dX2_widen_131 (by decide) ?_
          refine i_addk hx hb dX2_widen_132 irt (k := 1) rfl (lo := (-59)) (hi := 70) (by decide) (fun z16 ez16 mz16 iz16 => ?_)
          refine lv_aload_n hx hb dX2_widen_133 rfl (lv_at hl 0 rfl) ?_
          refine t_getfd C h t_73 hu0 (by decide) wf_20 (v := .ref mq) k73_u0_2 fl_X2_21 dX2_widen_134 ?_
          refine t_getfd C h t_73 tmq (by decide) wf_22 (v := .int mt) k73_mq_3 fl_X2_69 dX2_widen_137 ?_
          refine va_mmin hx hb (hml.trans hl.1.symm) hown (hts _ w_696) (hts _ w_548) (hts _ w_112) (hts _ w_549) (Nat.le_of_ble_eq_true rfl) (Nat.le_of_ble_eq_true rfl) (Nat.le_of_ble_eq_true rfl) (Nat.le_of_ble_eq_true rfl) dX2_widen_140 (i_min iz16 imt (lo := (-60)) (hi := 69) (by decide) (fun z17 mz17 iz17 => ?_))
          refine t_put C h t_73 o_73 trq (by decide) (by decide) (by decide) wf_23 fw_23 (k := 3) rfl flw_X2_69 (Or.inr ⟨_, _, _, rfl, rfl⟩) (v := .int z17) rfl rfl ⟨_, rfl, iz17⟩ dX2_widen_143 (fun f18 H locs h tf18 of18 hq ha_ hn_ hk_ => ?_)
          have k19 := atp.tg k73_u0_3 hq hu0 (by decide)
          have k20 := atp.tg k73_u0_2 hq hu0 (by decide)
          have k21 := atp.tg k73_u0_9 hq hu0 (by decide)
          have k22 := atp.tg k73_u0_10 hq hu0 (by decide)
          have k23 := hk_ 0 _ (by decide) k73_rq_0
          have k24 := hk_ 1 _ (by decide) k73_rq_1
          have k25 := hk_ 2 _ (by decide) k73_rq_2
          have k27 := atp.tg k73_mq_0 hq tmq (by decide)
          have k28 := atp.tg k73_mq_1 hq tmq (by decide)
          have k29 := atp.tg k73_mq_2 hq tmq (by decide)
          have k30 := atp.tg k73_mq_3 hq tmq (by decide)
          have k31 := ha_
          have gj32 : GJ τ f18 u0 rq mq := ⟨sx, sy, g37_rq_0, rb, g73_rq_2, z17, ml, mb, mr, mt, ⟨trq, tmq⟩, ⟨k19, k20, k21, k22⟩, ⟨k23, k24, k25, k31⟩, ⟨k27, k28, k29, k30⟩, ⟨isx, isy, ig37_rq_0, irb, ig73_rq_2, iz17, iml, imb, imr, imt⟩, ⟨by omega, by omega, by omega, by omega⟩, ⟨by omega, by omega, by omega, by omega⟩⟩
          exact u_vret C h hr hQ (⟨tf18, of18, gj32⟩) (Nat.le_of_ble_eq_true rfl) (Nat.le_of_ble_eq_true rfl) dX2_widen_146
      · have c6 : z2.toInt ≠ 0 := fun z_ => c3 (Int32.toInt_inj.mp z_)
        have i7 : iv z2 1 56 := iv_Nl c6 iz2 (by decide)
        refine lv_aload_n hx hb dX2_widen_83 rfl (lv_at hl 0 rfl) ?_
        refine t_getfd C h t_73 hu0 (by decide) wf_20 (v := .ref rq) k73_u0_3 fl_X2_25 dX2_widen_84 ?_
        refine lv_aload_n hx hb dX2_widen_87 rfl (lv_at hl 0 rfl) ?_
        refine t_getfd C h t_73 hu0 (by decide) wf_20 (v := .ref rq) k73_u0_3 fl_X2_25 dX2_widen_88 ?_
        refine t_getfd C h t_73 trq (by decide) wf_23 (v := .int rb) k73_rq_1 fl_X2_63 dX2_widen_91 ?_
        refine lv_iconst (v := 1) hx hb dX2_widen_94 (by decide) ?_
        refine i_subk hx hb dX2_widen_95 irb (k := 1) rfl (lo := (-61)) (hi := 68) (by decide) (fun z33 ez33 mz33 iz33 => ?_)
        refine lv_aload_n hx hb dX2_widen_96 rfl (lv_at hl 0 rfl) ?_
        refine t_getfd C h t_73 hu0 (by decide) wf_20 (v := .ref mq) k73_u0_2 fl_X2_21 dX2_widen_97 ?_
        refine t_getfd C h t_73 tmq (by decide) wf_22 (v := .int mb) k73_mq_1 fl_X2_63 dX2_widen_100 ?_
        refine va_mmax hx hb (hml.trans hl.1.symm) hown (hts _ w_695) (hts _ w_453) (hts _ w_112) (hts _ w_454) (Nat.le_of_ble_eq_true rfl) (Nat.le_of_ble_eq_true rfl) (Nat.le_of_ble_eq_true rfl) (Nat.le_of_ble_eq_true rfl) dX2_widen_103 (i_max iz33 imb (lo := (-60)) (hi := 69) (by decide) (fun z34 mz34 iz34 => ?_))
        refine t_put C h t_73 o_73 trq (by decide) (by decide) (by decide) wf_23 fw_23 (k := 1) rfl flw_X2_63 (Or.inr ⟨_, _, _, rfl, rfl⟩) (v := .int z34) rfl rfl ⟨_, rfl, iz34⟩ dX2_widen_106 (fun f35 H locs h tf35 of35 hq ha_ hn_ hk_ => ?_)
        have k36 := atp.tg k73_u0_3 hq hu0 (by decide)
        have k37 := atp.tg k73_u0_2 hq hu0 (by decide)
        have k38 := atp.tg k73_u0_9 hq hu0 (by decide)
        have k39 := atp.tg k73_u0_10 hq hu0 (by decide)
        have k40 := hk_ 0 _ (by decide) k73_rq_0
        have k42 := hk_ 2 _ (by decide) k73_rq_2
        have k43 := hk_ 3 _ (by decide) k73_rq_3
        have k44 := atp.tg k73_mq_0 hq tmq (by decide)
        have k45 := atp.tg k73_mq_1 hq tmq (by decide)
        have k46 := atp.tg k73_mq_2 hq tmq (by decide)
        have k47 := atp.tg k73_mq_3 hq tmq (by decide)
        have k48 := ha_
        refine lv_aload_n hx hb dX2_widen_109 rfl (lv_at hl 0 rfl) ?_
        refine t_geti C h tf35 hu0 (by decide) wf_20 rfl fl_X2_92 dX2_widen_110 (fun z49 iz49 => ?_)
        refine lv_sipush (v := 131) hx hb dX2_widen_113 (by decide) ?_
        refine lv_iand hx hb dX2_widen_116 (i_top (iv_and (k := 131) rfl (by decide)) (fun z50 ez50 iz50 => ?_))
        refine lv_if_eq (tgt := 146) hx hb dX2_widen_117 (by decide) (fun c51 => ?_) (fun c51 => ?_)
        · have c52 : z50.toInt = 0 := congrArg Int32.toInt c51
          have i53 : iv z50 0 0 := iv_Q c52 iz50 (iv_k (x := 0) (k := 0) rfl) (by decide)
          have gj56 : GJ τ f35 u0 rq mq := ⟨sx, sy, g37_rq_0, z34, g73_rq_2, rt, ml, mb, mr, mt, ⟨trq, tmq⟩, ⟨k36, k37, k38, k39⟩, ⟨k40, k48, k42, k43⟩, ⟨k44, k45, k46, k47⟩, ⟨isx, isy, ig37_rq_0, iz34, ig73_rq_2, irt, iml, imb, imr, imt⟩, ⟨by omega, by omega, by omega, by omega⟩, ⟨by omega, by omega, by omega, by omega⟩⟩
          exact u_vret C h hr hQ (⟨tf35, of35, gj56⟩) (Nat.le_of_ble_eq_true rfl) (Nat.le_of_ble_eq_true rfl) dX2_widen_146
        · have c54 : z50.toInt ≠ 0 := fun z_ => c51 (Int32.toInt_inj.mp z_)
          have i55 : iv z50 1 131 := iv_Nl c54 iz50 (by decide)
          refine lv_aload_n hx hb dX2_widen_120 rfl (lv_at hl 0 rfl) ?_
          refine t_getfd C h tf35 hu0 (by decide) wf_20 (v := .ref rq) k36 fl_X2_25 dX2_widen_121 ?_
          refine lv_aload_n hx hb dX2_widen_124 rfl (lv_at hl 0 rfl) ?_
          refine t_getfd C h tf35 hu0 (by decide) wf_20 (v := .ref rq) k36 fl_X2_25 dX2_widen_125 ?_
          refine t_getfd C h tf35 trq (by decide) wf_23 (v := .int rt) k43 fl_X2_69 dX2_widen_128 ?_
          refine lv_iconst (v := 1) hx hb dX2_widen_131 (by decide) ?_
          refine i_addk hx hb dX2_widen_132 irt (k := 1) rfl (lo := (-59)) (hi := 70) (by decide) (fun z57 ez57 mz57 iz57 => ?_)
          refine lv_aload_n hx hb dX2_widen_133 rfl (lv_at hl 0 rfl) ?_
          refine t_getfd C h tf35 hu0 (by decide) wf_20 (v := .ref mq) k37 fl_X2_21 dX2_widen_134 ?_
          refine t_getfd C h tf35 tmq (by decide) wf_22 (v := .int mt) k47 fl_X2_69 dX2_widen_137 ?_
          refine va_mmin hx hb (hml.trans hl.1.symm) hown (hts _ w_696) (hts _ w_548) (hts _ w_112) (hts _ w_549) (Nat.le_of_ble_eq_true rfl) (Nat.le_of_ble_eq_true rfl) (Nat.le_of_ble_eq_true rfl) (Nat.le_of_ble_eq_true rfl) dX2_widen_140 (i_min iz57 imt (lo := (-60)) (hi := 69) (by decide) (fun z58 mz58 iz58 => ?_))
          refine t_put C h tf35 of35 trq (by decide) (by decide) (by decide) wf_23 fw_23 (k := 3) rfl flw_X2_69 (Or.inr ⟨_, _, _, rfl, rfl⟩) (v := .int z58) rfl rfl ⟨_, rfl, iz58⟩ dX2_widen_143 (fun f59 H locs h tf59 of59 hq ha_ hn_ hk_ => ?_)
          have k60 := atp.tg k36 hq hu0 (by decide)
          have k61 := atp.tg k37 hq hu0 (by decide)
          have k62 := atp.tg k38 hq hu0 (by decide)
          have k63 := atp.tg k39 hq hu0 (by decide)
          have k64 := hk_ 0 _ (by decide) k40
          have k65 := hk_ 2 _ (by decide) k42
          have k67 := atp.tg k44 hq tmq (by decide)
          have k68 := atp.tg k45 hq tmq (by decide)
          have k69 := atp.tg k46 hq tmq (by decide)
          have k70 := atp.tg k47 hq tmq (by decide)
          have k71 := hk_ 1 _ (by decide) k48
          have k72 := ha_
          have gj73 : GJ τ f59 u0 rq mq := ⟨sx, sy, g37_rq_0, z34, g73_rq_2, z58, ml, mb, mr, mt, ⟨trq, tmq⟩, ⟨k60, k61, k62, k63⟩, ⟨k64, k71, k65, k72⟩, ⟨k67, k68, k69, k70⟩, ⟨isx, isy, ig37_rq_0, iz34, ig73_rq_2, iz58, iml, imb, imr, imt⟩, ⟨by omega, by omega, by omega, by omega⟩, ⟨by omega, by omega, by omega, by omega⟩⟩
          exact u_vret C h hr hQ (⟨tf59, of59, gj73⟩) (Nat.le_of_ble_eq_true rfl) (Nat.le_of_ble_eq_true rfl) dX2_widen_146
    refine lv_aload_n hx hb dX2_widen_37 rfl (lv_at hl 0 rfl) ?_
    refine t_geti C h t_37 hu0 (by decide) wf_20 rfl fl_X2_92 dX2_widen_38 (fun z74 iz74 => ?_)
    refine lv_bipush (v := 14) hx hb dX2_widen_41 (by decide) ?_
    refine lv_iand hx hb dX2_widen_43 (i_top (iv_and (k := 14) rfl (by decide)) (fun z75 ez75 iz75 => ?_))
    refine lv_if_eq (tgt := 73) hx hb dX2_widen_44 (by decide) (fun c76 => ?_) (fun c76 => ?_)
    · have c77 : z75.toInt = 0 := congrArg Int32.toInt c76
      have i78 : iv z75 0 0 := iv_Q c77 iz75 (iv_k (x := 0) (k := 0) rfl) (by decide)
      exact L73 ls f_37 H locs rr (lv_cons hl 0 rfl (lv_nil hl)) h t_37 o_37 irr k37_u0_3 k37_u0_2 k37_u0_9 k37_u0_10 k37_rq_0 k37_rq_1 k37_rq_2 k37_rq_3 k37_mq_0 k37_mq_1 k37_mq_2 k37_mq_3 (show rr.toInt ≤ sx.toInt + 60 by omega)
    · have c79 : z75.toInt ≠ 0 := fun z_ => c76 (Int32.toInt_inj.mp z_)
      have i80 : iv z75 1 14 := iv_Nl c79 iz75 (by decide)
      refine lv_aload_n hx hb dX2_widen_47 rfl (lv_at hl 0 rfl) ?_
      refine t_getfd C h t_37 hu0 (by decide) wf_20 (v := .ref rq) k37_u0_3 fl_X2_25 dX2_widen_48 ?_
      refine lv_aload_n hx hb dX2_widen_51 rfl (lv_at hl 0 rfl) ?_
      refine t_getfd C h t_37 hu0 (by decide) wf_20 (v := .ref rq) k37_u0_3 fl_X2_25 dX2_widen_52 ?_
      refine t_getfd C h t_37 trq (by decide) wf_23 (v := .int rr) k37_rq_2 fl_X2_66 dX2_widen_55 ?_
      refine lv_iconst (v := 1) hx hb dX2_widen_58 (by decide) ?_
      refine i_addk hx hb dX2_widen_59 irr (k := 1) rfl (lo := (-59)) (hi := 70) (by decide) (fun z81 ez81 mz81 iz81 => ?_)
      refine lv_aload_n hx hb dX2_widen_60 rfl (lv_at hl 0 rfl) ?_
      refine t_getfd C h t_37 hu0 (by decide) wf_20 (v := .ref mq) k37_u0_2 fl_X2_21 dX2_widen_61 ?_
      refine t_getfd C h t_37 tmq (by decide) wf_22 (v := .int mr) k37_mq_2 fl_X2_66 dX2_widen_64 ?_
      refine va_mmin hx hb (hml.trans hl.1.symm) hown (hts _ w_696) (hts _ w_548) (hts _ w_112) (hts _ w_549) (Nat.le_of_ble_eq_true rfl) (Nat.le_of_ble_eq_true rfl) (Nat.le_of_ble_eq_true rfl) (Nat.le_of_ble_eq_true rfl) dX2_widen_67 (i_min iz81 imr (lo := (-60)) (hi := 69) (by decide) (fun z82 mz82 iz82 => ?_))
      refine t_put C h t_37 o_37 trq (by decide) (by decide) (by decide) wf_23 fw_23 (k := 2) rfl flw_X2_66 (Or.inr ⟨_, _, _, rfl, rfl⟩) (v := .int z82) rfl rfl ⟨_, rfl, iz82⟩ dX2_widen_70 (fun f83 H locs h tf83 of83 hq ha_ hn_ hk_ => ?_)
      have k84 := atp.tg k37_u0_3 hq hu0 (by decide)
      have k85 := atp.tg k37_u0_2 hq hu0 (by decide)
      have k86 := atp.tg k37_u0_9 hq hu0 (by decide)
      have k87 := atp.tg k37_u0_10 hq hu0 (by decide)
      have k88 := hk_ 0 _ (by decide) k37_rq_0
      have k89 := hk_ 1 _ (by decide) k37_rq_1
      have k91 := hk_ 3 _ (by decide) k37_rq_3
      have k92 := atp.tg k37_mq_0 hq tmq (by decide)
      have k93 := atp.tg k37_mq_1 hq tmq (by decide)
      have k94 := atp.tg k37_mq_2 hq tmq (by decide)
      have k95 := atp.tg k37_mq_3 hq tmq (by decide)
      have k96 := ha_
      exact L73 ls f83 H locs z82 (lv_cons hl 0 rfl (lv_nil hl)) h tf83 of83 iz82 k84 k85 k86 k87 k88 k89 k96 k91 k92 k93 k94 k95 (show z82.toInt ≤ sx.toInt + 60 by omega)
  refine lv_aload_n hx hb dX2_widen_0 rfl (lv_at hl 0 rfl) ?_
  refine t_geti C h t hu0 (by decide) wf_20 rfl fl_X2_92 dX2_widen_1 (fun z97 iz97 => ?_)
  refine lv_sipush (v := 224) hx hb dX2_widen_4 (by decide) ?_
  refine lv_iand hx hb dX2_widen_7 (i_top (iv_and (k := 224) rfl (by decide)) (fun z98 ez98 iz98 => ?_))
  refine lv_if_eq (tgt := 37) hx hb dX2_widen_8 (by decide) (fun c99 => ?_) (fun c99 => ?_)
  · have c100 : z98.toInt = 0 := congrArg Int32.toInt c99
    have i101 : iv z98 0 0 := iv_Q c100 iz98 (iv_k (x := 0) (k := 0) rfl) (by decide)
    exact L37 ls f s.heap [] rl (lv_cons hl 0 rfl (lv_nil hl)) h t o irl kg3 kg2 ksx ksy krl krb krr krt kml kmb kmr kmt (show sx.toInt - 60 ≤ rl.toInt by omega)
  · have c102 : z98.toInt ≠ 0 := fun z_ => c99 (Int32.toInt_inj.mp z_)
    have i103 : iv z98 1 224 := iv_Nl c102 iz98 (by decide)
    refine lv_aload_n hx hb dX2_widen_11 rfl (lv_at hl 0 rfl) ?_
    refine t_getfd C h t hu0 (by decide) wf_20 (v := .ref rq) kg3 fl_X2_25 dX2_widen_12 ?_
    refine lv_aload_n hx hb dX2_widen_15 rfl (lv_at hl 0 rfl) ?_
    refine t_getfd C h t hu0 (by decide) wf_20 (v := .ref rq) kg3 fl_X2_25 dX2_widen_16 ?_
    refine t_getfd C h t trq (by decide) wf_23 (v := .int rl) krl fl_X2_60 dX2_widen_19 ?_
    refine lv_iconst (v := 1) hx hb dX2_widen_22 (by decide) ?_
    refine i_subk hx hb dX2_widen_23 irl (k := 1) rfl (lo := (-61)) (hi := 68) (by decide) (fun z104 ez104 mz104 iz104 => ?_)
    refine lv_aload_n hx hb dX2_widen_24 rfl (lv_at hl 0 rfl) ?_
    refine t_getfd C h t hu0 (by decide) wf_20 (v := .ref mq) kg2 fl_X2_21 dX2_widen_25 ?_
    refine t_getfd C h t tmq (by decide) wf_22 (v := .int ml) kml fl_X2_60 dX2_widen_28 ?_
    refine va_mmax hx hb (hml.trans hl.1.symm) hown (hts _ w_695) (hts _ w_453) (hts _ w_112) (hts _ w_454) (Nat.le_of_ble_eq_true rfl) (Nat.le_of_ble_eq_true rfl) (Nat.le_of_ble_eq_true rfl) (Nat.le_of_ble_eq_true rfl) dX2_widen_31 (i_max iz104 iml (lo := (-60)) (hi := 69) (by decide) (fun z105 mz105 iz105 => ?_))
    refine t_put C h t o trq (by decide) (by decide) (by decide) wf_23 fw_23 (k := 0) rfl flw_X2_60 (Or.inr ⟨_, _, _, rfl, rfl⟩) (v := .int z105) rfl rfl ⟨_, rfl, iz105⟩ dX2_widen_34 (fun f106 H locs h tf106 of106 hq ha_ hn_ hk_ => ?_)
    have k107 := atp.tg kg3 hq hu0 (by decide)
    have k108 := atp.tg kg2 hq hu0 (by decide)
    have k109 := atp.tg ksx hq hu0 (by decide)
    have k110 := atp.tg ksy hq hu0 (by decide)
    have k112 := hk_ 1 _ (by decide) krb
    have k113 := hk_ 2 _ (by decide) krr
    have k114 := hk_ 3 _ (by decide) krt
    have k115 := atp.tg kml hq tmq (by decide)
    have k116 := atp.tg kmb hq tmq (by decide)
    have k117 := atp.tg kmr hq tmq (by decide)
    have k118 := atp.tg kmt hq tmq (by decide)
    have k119 := ha_
    exact L37 ls f106 H locs z105 (lv_cons hl 0 rfl (lv_nil hl)) h tf106 of106 iz105 k107 k108 k109 k110 k119 k112 k113 k114 k115 k116 k117 k118 (show sx.toInt - 60 ≤ z105.toInt by omega)
abbrev rm_s_X2_gather : Room := { frames := 2, cells := 0, slots := 0, locals := 39 }
set_option maxRecDepth 100000 in
set_option maxHeartbeats 4000000 in
theorem s_X2_gather (l : Launch) (D : va_G) (G : Nat → Nat) (b0 : Nat) (τ : Nat → Nat) (f : hM) (t : TI G 9 τ f) (u0 : Nat) (hu0 : τ u0 = 20) (rq mq : Nat) (hGJ : GJ τ f u0 rq mq) : mV l yX2_gather cX2_gather 7 rm_s_X2_gather D G b0 f [.ref u0] (fun f1 => TI G 9 τ f1 ∧ Fr [21] τ f f1) := by
  refine met2 (own := RX2) (by decide) rfl (Nat.le_of_ble_eq_true rfl) ?_
  intro p e s m args below meth c ls Q hQ C hr hini hl h
  have hl : lv_has ls 7 [(0, .ref u0)] := hl
  obtain ⟨hx, hb, hml, hown, hts, hE0, hlk⟩ := id C
  have o := Fr.rf [21] τ f
  obtain ⟨sx, sy, rl, rb, rr, rt, ml, mb, mr, mt, ⟨trq, tmq⟩, ⟨kg3, kg2, ksx, ksy⟩, ⟨krl, krb, krr, krt⟩, ⟨kml, kmb, kmr, kmt⟩, ⟨isx, isy, irl, irb, irr, irt, iml, imb, imr, imt⟩, ⟨gr1, gr2, gr3, gr4⟩, ⟨gr5, gr6, gr7, gr8⟩⟩ := hGJ
  have L8 : ∀ (n8 : Nat) (ls : Array Slot) (f_8 : hM) (H : Heap) (locs : List Loc) (v8_1 : Int32), 70 - v8_1.toInt < (n8 : Int) → lv_has ls 7 [(0, .ref u0), (1, .int v8_1)] → hw D b0 s.heap f_8 H locs → TI G 9 τ f_8 → Fr [21] τ f f_8 → iv v8_1 (-60) 70 → atp f_8 u0 (fd 3 (.ref rq)) → atp f_8 u0 (fd 2 (.ref mq)) → atp f_8 u0 (fd 9 (.int sx)) → atp f_8 u0 (fd 10 (.int sy)) → atp f_8 rq (fd 0 (.int rl)) → atp f_8 rq (fd 1 (.int rb)) → atp f_8 rq (fd 2 (.int rr)) → atp f_8 rq (fd 3 (.int rt)) → atp f_8 mq (fd 0 (.int ml)) → atp f_8 mq (fd 1 (.int mb)) → atp f_8 mq (fd 2 (.int mr)) → atp f_8 mq (fd 3 (.int mt)) → rl.toInt ≤ v8_1.toInt → W p l e rm_s_X2_gather s m args below meth c H locs 0 0 Q (F0 m 8 ls []) := by
    intro n8
    induction n8 with
    | zero => intro ls f_8 H locs v8_1 hm8 hl h t_8 o_8 iv8_1 k8_u0_3 k8_u0_2 k8_u0_9 k8_u0_10 k8_rq_0 k8_rq_1 k8_rq_2 k8_rq_3 k8_mq_0 k8_mq_1 k8_mq_2 k8_mq_3 hv8_0; exact absurd hm8 (by omega)
    | succ n8 ih8 =>
      intro ls f_8 H locs v8_1 hm8 hl h t_8 o_8 iv8_1 k8_u0_3 k8_u0_2 k8_u0_9 k8_u0_10 k8_rq_0 k8_rq_1 k8_rq_2 k8_rq_3 k8_mq_0 k8_mq_1 k8_mq_2 k8_mq_3 hv8_0
      have L45 : ∀ (n45 : Nat) (ls : Array Slot) (f_45 : hM) (H : Heap) (locs : List Loc) (v45_2 : Int32) (v45_3 : Int32), 15020 - v45_3.toInt < (n45 : Int) → lv_has ls 7 [(0, .ref u0), (1, .int v8_1), (2, .int v45_2), (3, .int v45_3)] → hw D b0 s.heap f_45 H locs → TI G 9 τ f_45 → Fr [21] τ f f_45 → iv v8_1 (-60) 69 → iv v45_2 (-20000) 15004 → iv v45_3 124 15020 → atp f_45 u0 (fd 3 (.ref rq)) → atp f_45 u0 (fd 2 (.ref mq)) → atp f_45 u0 (fd 9 (.int sx)) → atp f_45 u0 (fd 10 (.int sy)) → atp f_45 rq (fd 0 (.int rl)) → atp f_45 rq (fd 1 (.int rb)) → atp f_45 rq (fd 2 (.int rr)) → atp f_45 rq (fd 3 (.int rt)) → atp f_45 mq (fd 0 (.int ml)) → atp f_45 mq (fd 1 (.int mb)) → atp f_45 mq (fd 2 (.int mr)) → atp f_45 mq (fd 3 (.int mt)) → W p l e rm_s_X2_gather s m args below meth c H locs 0 0 Q (F0 m 45 ls []) := by
        intro n45
        induction n45 with
        | zero => intro ls f_45 H locs v45_2 v45_3 hm45 hl h t_45 o_45 jv45_1 iv45_2 iv45_3 k45_u0_3 k45_u0_2 k45_u0_9 k45_u0_10 k45_rq_0 k45_rq_1 k45_rq_2 k45_rq_3 k45_mq_0 k45_mq_1 k45_mq_2 k45_mq_3; exact absurd hm45 (by omega)
        | succ n45 ih45 =>
          intro ls f_45 H locs v45_2 v45_3 hm45 hl h t_45 o_45 jv45_1 iv45_2 iv45_3 k45_u0_3 k45_u0_2 k45_u0_9 k45_u0_10 k45_rq_0 k45_rq_1 k45_rq_2 k45_rq_3 k45_mq_0 k45_mq_1 k45_mq_2 k45_mq_3
          have L56 : ∀ (n56 : Nat) (ls : Array Slot) (f_56 : hM) (H : Heap) (locs : List Loc) (v56_4 : Int64) (v56_6 : Int32), 8 - v56_6.toInt < (n56 : Int) → lv_has ls 7 [(0, .ref u0), (1, .int v8_1), (2, .int v45_2), (3, .int v45_3), (4, .long v56_4), (6, .int v56_6)] → hw D b0 s.heap f_56 H locs → TI G 9 τ f_56 → Fr [21] τ f f_56 → iv v45_2 124 15004 → iv v45_3 124 15004 → iv v56_6 0 8 → atp f_56 u0 (fd 3 (.ref rq)) → atp f_56 u0 (fd 2 (.ref mq)) → atp f_56 u0 (fd 9 (.int sx)) → atp f_56 u0 (fd 10 (.int sy)) → atp f_56 rq (fd 0 (.int rl)) → atp f_56 rq (fd 1 (.int rb)) → atp f_56 rq (fd 2 (.int rr)) → atp f_56 rq (fd 3 (.int rt)) → atp f_56 mq (fd 0 (.int ml)) → atp f_56 mq (fd 1 (.int mb)) → atp f_56 mq (fd 2 (.int mr)) → atp f_56 mq (fd 3 (.int mt)) → W p l e rm_s_X2_gather s m args below meth c H locs 0 0 Q (F0 m 56 ls []) := by
            intro n56
            induction n56 with
            | zero => intro ls f_56 H locs v56_4 v56_6 hm56 hl h t_56 o_56 jv56_2 jv56_3 iv56_6 k56_u0_3 k56_u0_2 k56_u0_9 k56_u0_10 k56_rq_0 k56_rq_1 k56_rq_2 k56_rq_3 k56_mq_0 k56_mq_1 k56_mq_2 k56_mq_3; exact absurd hm56 (by omega)
            | succ n56 ih56 =>
              intro ls f_56 H locs v56_4 v56_6 hm56 hl h t_56 o_56 jv56_2 jv56_3 iv56_6 k56_u0_3 k56_u0_2 k56_u0_9 k56_u0_10 k56_rq_0 k56_rq_1 k56_rq_2 k56_rq_3 k56_mq_0 k56_mq_1 k56_mq_2 k56_mq_3
              refine lv_iload hx hb dX2_gather_56 (lv_at hl 5 rfl) ?_
              refine lv_aload_n hx hb dX2_gather_58 rfl (lv_at hl 0 rfl) ?_
              refine t_geti C h t_56 hu0 (by decide) wf_20 rfl fl_X2_85 dX2_gather_59 (fun z1 iz1 => ?_)
              refine lv_icmp_ge (tgt := 98) hx hb dX2_gather_62 (by decide) (fun c2 => ?_) (fun c2 => ?_)
              · have c3 : z1.toInt ≤ v56_6.toInt := Int32.le_iff_toInt_le.mp c2
                refine lv_aload_n hx hb dX2_gather_98 rfl (lv_at hl 0 rfl) ?_
                refine t_getr (tq := 21) C h t_56 hu0 (by decide) wf_20 rfl fl_X2_15 dX2_gather_99 (fun q7 tq7 => ?_)
                refine lv_iload_n hx hb dX2_gather_102 rfl (lv_at hl 3 rfl) ?_
                refine lv_aload_n hx hb dX2_gather_103 rfl (lv_at hl 0 rfl) ?_
                refine lv_lload hx hb dX2_gather_104 (lv_at hl 4 rfl) ?_
                obtain ⟨_, r8⟩ := t_rec t_56 hu0 (by decide) wf_20
                refine k_l (r_V C h hl (As := [.long v56_4]) (rest := [.int v45_3, .ref q7]) (s_X2_settled l D G b0 τ f_56 t_56 u0 hu0 v56_4) r8 (Cn := RX2) (T := TX2) (N := 11) rfl rfl mk_X2_settled w_701 w_703 w_16 w_704 ⟨Nat.le_of_ble_eq_true rfl, Nat.le_of_ble_eq_true rfl⟩ rfl (Nat.le_of_ble_eq_true rfl) ⟨Nat.le_of_ble_eq_true rfl, Nat.le_of_ble_eq_true rfl⟩ rfl dX2_gather_106) h (fun r9 f10 H locs p11 h => ?_)
                obtain ⟨tf10, ogf10⟩ := p11
                have egf10 := Fr.nil2 ogf10
                subst egf10
                refine t_last C h t_56 o_56 tq7 (by decide) (by decide) wf_21 fw_21 (iv_in jv56_3 (by decide)) dX2_gather_109 (fun f12 H locs h tf12 of12 hq => ?_)
                have k13 := atp.tg k56_u0_3 hq hu0 (by decide)
                have k14 := atp.tg k56_u0_2 hq hu0 (by decide)
                have k15 := atp.tg k56_u0_9 hq hu0 (by decide)
                have k16 := atp.tg k56_u0_10 hq hu0 (by decide)
                have k17 := atp.tg k56_rq_0 hq trq (by decide)
                have k18 := atp.tg k56_rq_1 hq trq (by decide)
                have k19 := atp.tg k56_rq_2 hq trq (by decide)
                have k20 := atp.tg k56_rq_3 hq trq (by decide)
                have k21 := atp.tg k56_mq_0 hq tmq (by decide)
                have k22 := atp.tg k56_mq_1 hq tmq (by decide)
                have k23 := atp.tg k56_mq_2 hq tmq (by decide)
                have k24 := atp.tg k56_mq_3 hq tmq (by decide)
                refine i_inc hx hb dX2_gather_110 hl (k := 3) rfl jv56_3 rfl (lo := 125) (hi := 15005) (by decide) (by decide) (lv' := fun v => [(3, .int v), (0, .ref u0), (1, .int v8_1), (2, .int v45_2), (4, .long v56_4), (6, .int v56_6)]) (fun _ => rfl) (fun z25 ls ez25 mz25 iz25 hl => ?_)
                refine lv_goto (tgt := 45) hx hb dX2_gather_113 (by decide) ?_
                exact ih45 ls f12 H locs v45_2 z25 (show 15020 - z25.toInt < _ by omega) (lv_cons hl 1 rfl (lv_cons hl 2 rfl (lv_cons hl 3 rfl (lv_cons hl 0 rfl (lv_nil hl))))) h tf12 of12 jv45_1 (iv_w jv56_2 (by decide)) (iv_w iz25 (by decide)) k13 k14 k15 k16 k17 k18 k19 k20 k21 k22 k23 k24
              · have c4 : v56_6.toInt < z1.toInt := Int32.lt_iff_toInt_lt.mp (iv_nle c2)
                have i5 : iv v56_6 0 7 := iv_Ll c4 iv56_6 iz1 (by decide)
                have i6 : iv z1 1 8 := iv_Lr c4 iv56_6 iz1 (by decide)
                refine lv_lload hx hb dX2_gather_65 (lv_at hl 4 rfl) ?_
                refine lv_aload_n hx hb dX2_gather_67 rfl (lv_at hl 0 rfl) ?_
                refine t_getr (tq := 25) C h t_56 hu0 (by decide) wf_20 rfl fl_X2_32 dX2_gather_68 (fun q26 tq26 => ?_)
                refine lv_iload hx hb dX2_gather_71 (lv_at hl 5 rfl) ?_
                refine t_lald C h t_56 tq26 (by decide) wf_25 (iv_in i5 (by decide)) dX2_gather_73 (fun w27 => ?_)
                refine lv_aload_n hx hb dX2_gather_74 rfl (lv_at hl 0 rfl) ?_
                refine t_getr (tq := 21) C h t_56 hu0 (by decide) wf_20 rfl fl_X2_11 dX2_gather_75 (fun q28 tq28 => ?_)
                refine lv_iload_n hx hb dX2_gather_78 rfl (lv_at hl 3 rfl) ?_
                refine lv_aload_n hx hb dX2_gather_79 rfl (lv_at hl 0 rfl) ?_
                refine t_getr (tq := 24) C h t_56 hu0 (by decide) wf_20 rfl fl_X2_28 dX2_gather_80 (fun q29 tq29 => ?_)
                refine lv_iload hx hb dX2_gather_83 (lv_at hl 5 rfl) ?_
                refine t_iald C h t_56 tq29 (by decide) wf_24 (iv_in i5 (by decide)) dX2_gather_85 (fun z30 iz30 => ?_)
                refine i_sub hx hb dX2_gather_86 jv56_3 iz30 (lo := 0) (hi := 15128) (by decide) (fun z31 ez31 mz31 iz31 => ?_)
                refine t_lald C h t_56 tq28 (by decide) wf_21 (iv_in iz31 (by decide)) dX2_gather_87 (fun w32 => ?_)
                refine lv_lmul hx hb dX2_gather_88 (lv_topl (fun w33 ew33 => ?_))
                refine lv_ladd hx hb dX2_gather_89 (lv_topl (fun w34 ew34 => ?_))
                refine lv_lstore (lv' := [(4, .long w34), (0, .ref u0), (1, .int v8_1), (2, .int v45_2), (3, .int v45_3), (6, .int v56_6)]) hx hb dX2_gather_90 hl (by decide) rfl (fun ls hl => ?_)
                refine i_inc hx hb dX2_gather_92 hl (k := 5) rfl i5 rfl (lo := 1) (hi := 8) (by decide) (by decide) (lv' := fun v => [(6, .int v), (4, .long w34), (0, .ref u0), (1, .int v8_1), (2, .int v45_2), (3, .int v45_3)]) (fun _ => rfl) (fun z35 ls ez35 mz35 iz35 hl => ?_)
                refine lv_goto (tgt := 56) hx hb dX2_gather_95 (by decide) ?_
                exact ih56 ls f_56 H locs w34 z35 (show 8 - z35.toInt < _ by omega) (lv_cons hl 2 rfl (lv_cons hl 3 rfl (lv_cons hl 4 rfl (lv_cons hl 5 rfl (lv_cons hl 1 rfl (lv_cons hl 0 rfl (lv_nil hl))))))) h t_56 o_56 jv56_2 jv56_3 (iv_w iz35 (by decide)) k56_u0_3 k56_u0_2 k56_u0_9 k56_u0_10 k56_rq_0 k56_rq_1 k56_rq_2 k56_rq_3 k56_mq_0 k56_mq_1 k56_mq_2 k56_mq_3
          refine lv_iload_n hx hb dX2_gather_45 rfl (lv_at hl 3 rfl) ?_
          refine lv_iload_n hx hb dX2_gather_46 rfl (lv_at hl 2 rfl) ?_
          refine lv_icmp_gt (tgt := 116) hx hb dX2_gather_47 (by decide) (fun c36 => ?_) (fun c36 => ?_)
          · have c37 : v45_2.toInt < v45_3.toInt := Int32.lt_iff_toInt_lt.mp c36
            refine i_inc hx hb dX2_gather_116 hl (k := 1) rfl jv45_1 rfl (lo := (-59)) (hi := 70) (by decide) (by decide) (lv' := fun v => [(1, .int v), (0, .ref u0), (2, .int v45_2), (3, .int v45_3)]) (fun _ => rfl) (fun z41 ls ez41 mz41 iz41 hl => ?_)
            refine lv_goto (tgt := 8) hx hb dX2_gather_119 (by decide) ?_
            exact ih8 ls f_45 H locs z41 (show 70 - z41.toInt < _ by omega) (lv_cons hl 1 rfl (lv_cons hl 0 rfl (lv_nil hl))) h t_45 o_45 (iv_w iz41 (by decide)) k45_u0_3 k45_u0_2 k45_u0_9 k45_u0_10 k45_rq_0 k45_rq_1 k45_rq_2 k45_rq_3 k45_mq_0 k45_mq_1 k45_mq_2 k45_mq_3 (show rl.toInt ≤ z41.toInt by omega)
          · have c38 : v45_3.toInt ≤ v45_2.toInt := Int32.le_iff_toInt_le.mp (iv_nlt c36)
            have i39 : iv v45_3 124 15004 := iv_El c38 iv45_3 iv45_2 (by decide)
            have i40 : iv v45_2 124 15004 := iv_Er c38 iv45_3 iv45_2 (by decide)
            refine lv_lconst (v := 0) hx hb dX2_gather_50 (by decide) ?_
            refine lv_lstore (lv' := [(4, .long 0), (0, .ref u0), (1, .int v8_1), (2, .int v45_2), (3, .int v45_3)]) hx hb dX2_gather_51 hl (by decide) rfl (fun ls hl => ?_)
            refine lv_iconst (v := 0) hx hb dX2_gather_53 (by decide) ?_
            refine lv_istore (lv' := [(6, .int 0), (4, .long 0), (0, .ref u0), (1, .int v8_1), (2, .int v45_2), (3, .int v45_3)]) hx hb dX2_gather_54 hl (by decide) rfl (fun ls hl => ?_)
            exact L56 9 ls f_45 H locs 0 0 (by decide) (lv_cons hl 2 rfl (lv_cons hl 3 rfl (lv_cons hl 4 rfl (lv_cons hl 5 rfl (lv_cons hl 1 rfl (lv_cons hl 0 rfl (lv_nil hl))))))) h t_45 o_45 i40 i39 ⟨by decide, by decide⟩ k45_u0_3 k45_u0_2 k45_u0_9 k45_u0_10 k45_rq_0 k45_rq_1 k45_rq_2 k45_rq_3 k45_mq_0 k45_mq_1 k45_mq_2 k45_mq_3
      refine lv_iload_n hx hb dX2_gather_8 rfl (lv_at hl 1 rfl) ?_
      refine lv_aload_n hx hb dX2_gather_9 rfl (lv_at hl 0 rfl) ?_
      refine t_getfd C h t_8 hu0 (by decide) wf_20 (v := .ref rq) k8_u0_3 fl_X2_25 dX2_gather_10 ?_
      refine t_getfd C h t_8 trq (by decide) wf_23 (v := .int rr) k8_rq_2 fl_X2_66 dX2_gather_13 ?_
      refine lv_icmp_gt (tgt := 122) hx hb dX2_gather_16 (by decide) (fun c42 => ?_) (fun c42 => ?_)
      · have c43 : rr.toInt < v8_1.toInt := Int32.lt_iff_toInt_lt.mp c42
        have i44 : iv v8_1 (-59) 70 := iv_Lr c43 irr iv8_1 (by decide)
        exact u_vret C h hr hQ (⟨t_8, o_8⟩) (Nat.le_of_ble_eq_true rfl) (Nat.le_of_ble_eq_true rfl) dX2_gather_122
      · have c45 : v8_1.toInt ≤ rr.toInt := Int32.le_iff_toInt_le.mp (iv_nlt c42)
        have i46 : iv v8_1 (-60) 69 := iv_El c45 iv8_1 irr (by decide)
        refine lv_aload_n hx hb dX2_gather_19 rfl (lv_at hl 0 rfl) ?_
        refine lv_iload_n hx hb dX2_gather_20 rfl (lv_at hl 1 rfl) ?_
        refine lv_aload_n hx hb dX2_gather_21 rfl (lv_at hl 0 rfl) ?_
        refine t_getfd C h t_8 hu0 (by decide) wf_20 (v := .ref rq) k8_u0_3 fl_X2_25 dX2_gather_22 ?_
        refine t_getfd C h t_8 trq (by decide) wf_23 (v := .int rt) k8_rq_3 fl_X2_69 dX2_gather_25 ?_
        obtain ⟨_, r47⟩ := t_rec t_8 hu0 (by decide) wf_20
        refine k_i (r_V C h hl (As := [.int v8_1, .int rt]) (rest := []) (s_X2_cell l D G b0 τ f_8 t_8 u0 hu0 v8_1 (iv_w i46 (by decide)) rt (iv_w irt (by decide)) sx isx k8_u0_9 sy isy k8_u0_10) r47 (Cn := RX2) (T := TX2) (N := 11) rfl rfl mk_X2_cell w_671 w_673 w_12 w_674 ⟨Nat.le_of_ble_eq_true rfl, Nat.le_of_ble_eq_true rfl⟩ rfl (Nat.le_of_ble_eq_true rfl) ⟨Nat.le_of_ble_eq_true rfl, Nat.le_of_ble_eq_true rfl⟩ rfl dX2_gather_28) h (fun r48 f49 H locs p50 h => ?_)
        obtain ⟨ir48, tf49, ogf49, x0r48⟩ := p50
        have egf49 := Fr.nil2 ogf49
        subst egf49
        refine lv_istore_n (lv' := [(2, .int r48), (0, .ref u0), (1, .int v8_1)]) hx hb dX2_gather_31 rfl hl (by decide) rfl (fun ls hl => ?_)
        refine lv_aload_n hx hb dX2_gather_32 rfl (lv_at hl 1 rfl) ?_
        refine lv_iload_n hx hb dX2_gather_33 rfl (lv_at hl 2 rfl) ?_
        refine lv_aload_n hx hb dX2_gather_34 rfl (lv_at hl 1 rfl) ?_
        refine t_getfd C h t_8 hu0 (by decide) wf_20 (v := .ref rq) k8_u0_3 fl_X2_25 dX2_gather_35 ?_
        refine t_getfd C h t_8 trq (by decide) wf_23 (v := .int rb) k8_rq_1 fl_X2_63 dX2_gather_38 ?_
        obtain ⟨_, r51⟩ := t_rec t_8 hu0 (by decide) wf_20
        refine k_i (r_V C h hl (As := [.int v8_1, .int rb]) (rest := []) (s_X2_cell l D G b0 τ f_8 t_8 u0 hu0 v8_1 (iv_w i46 (by decide)) rb (iv_w irb (by decide)) sx isx k8_u0_9 sy isy k8_u0_10) r51 (Cn := RX2) (T := TX2) (N := 11) rfl rfl mk_X2_cell w_671 w_673 w_12 w_674 ⟨Nat.le_of_ble_eq_true rfl, Nat.le_of_ble_eq_true rfl⟩ rfl (Nat.le_of_ble_eq_true rfl) ⟨Nat.le_of_ble_eq_true rfl, Nat.le_of_ble_eq_true rfl⟩ rfl dX2_gather_41) h (fun r52 f53 H locs p54 h => ?_)
        obtain ⟨ir52, tf53, ogf53, x0r52⟩ := p54
        have egf53 := Fr.nil2 ogf53
        subst egf53
        refine lv_istore_n (lv' := [(3, .int r52), (2, .int r48), (0, .ref u0), (1, .int v8_1)]) hx hb dX2_gather_44 rfl hl (by decide) rfl (fun ls hl => ?_)
        exact L45 15021 ls f_8 H locs r48 r52 (show 15020 - r52.toInt < _ by omega) (lv_cons hl 2 rfl (lv_cons hl 3 rfl (lv_cons hl 1 rfl (lv_cons hl 0 rfl (lv_nil hl))))) h t_8 o_8 i46 (show iv r48 (-20000) 15004 from by omega) (show iv r52 124 15020 from by omega) k8_u0_3 k8_u0_2 k8_u0_9 k8_u0_10 k8_rq_0 k8_rq_1 k8_rq_2 k8_rq_3 k8_mq_0 k8_mq_1 k8_mq_2 k8_mq_3
  refine lv_aload_n hx hb dX2_gather_0 rfl (lv_at hl 0 rfl) ?_
  refine t_getfd C h t hu0 (by decide) wf_20 (v := .ref rq) kg3 fl_X2_25 dX2_gather_1 ?_
  refine t_getfd C h t trq (by decide) wf_23 (v := .int rl) krl fl_X2_60 dX2_gather_4 ?_
  refine lv_istore_n (lv' := [(1, .int rl), (0, .ref u0)]) hx hb dX2_gather_7 rfl hl (by decide) rfl (fun ls hl => ?_)
  exact L8 131 ls f s.heap [] rl (show 70 - rl.toInt < _ by omega) (lv_cons hl 1 rfl (lv_cons hl 0 rfl (lv_nil hl))) h t o (iv_w irl (by decide)) kg3 kg2 ksx ksy krl krb krr krt kml kmb kmr kmt (show rl.toInt ≤ rl.toInt by omega)
abbrev rm_s_X2_advance : Room := { frames := 3, cells := 0, slots := 0, locals := 65 }
set_option maxRecDepth 100000 in
set_option maxHeartbeats 4000000 in
theorem s_X2_advance (l : Launch) (D : va_G) (G : Nat → Nat) (b0 : Nat) (τ : Nat → Nat) (f : hM) (t : TI G 9 τ f) (u0 : Nat) (hu0 : τ u0 = 20) (u1 : Int32) (hu1 : iv u1 (-2147483648) 2147483647) (rq mq : Nat) (hGJ : GJ τ f u0 rq mq) : mV l yX2_advance cX2_advance 4 rm_s_X2_advance D G b0 f [.ref u0, .int u1] (fun f1 => TI G 9 τ f1 ∧ Fr [20, 21, 23, 20001, 20002, 23001, 23002, 23003, 23004] τ f f1 ∧ GJ τ f1 u0 rq mq) := by
  refine met2 (own := RX2) (by decide) rfl (Nat.le_of_ble_eq_true rfl) ?_
  intro p e s m args below meth c ls Q hQ C hr hini hl h
  have hl : lv_has ls 4 [(0, .ref u0), (1, .int u1)] := hl
  obtain ⟨hx, hb, hml, hown, hts, hE0, hlk⟩ := id C
  have o := Fr.rf [20, 21, 23, 20001, 20002, 23001, 23002, 23003, 23004] τ f
  obtain ⟨sx, sy, rl, rb, rr, rt, ml, mb, mr, mt, ⟨trq, tmq⟩, ⟨kg3, kg2, ksx, ksy⟩, ⟨krl, krb, krr, krt⟩, ⟨kml, kmb, kmr, kmt⟩, ⟨isx, isy, irl, irb, irr, irt, iml, imb, imr, imt⟩, ⟨gr1, gr2, gr3, gr4⟩, ⟨gr5, gr6, gr7, gr8⟩⟩ := hGJ
  have L2 : ∀ (n2 : Nat) (ls : Array Slot) (f_2 : hM) (H : Heap) (locs : List Loc) (v2_2 : Int32) (g2_u0_9 : Int32) (g2_u0_10 : Int32) (g2_rq_0 : Int32) (g2_rq_1 : Int32) (g2_rq_2 : Int32) (g2_rq_3 : Int32) (g2_mq_0 : Int32) (g2_mq_1 : Int32) (g2_mq_2 : Int32) (g2_mq_3 : Int32), 2147483647 - v2_2.toInt < (n2 : Int) → lv_has ls 4 [(0, .ref u0), (1, .int u1), (2, .int v2_2)] → hw D b0 s.heap f_2 H locs → TI G 9 τ f_2 → Fr [20, 21, 23, 20001, 20002, 23001, 23002, 23003, 23004] τ f f_2 → iv v2_2 0 2147483647 → iv g2_u0_9 0 9 → iv g2_u0_10 0 9 → iv g2_rq_0 (-60) 69 → iv g2_rq_1 (-60) 69 → iv g2_rq_2 (-60) 69 → iv g2_rq_3 (-60) 69 → iv g2_mq_0 (-60) 69 → iv g2_mq_1 (-60) 69 → iv g2_mq_2 (-60) 69 → iv g2_mq_3 (-60) 69 → atp f_2 u0 (fd 3 (.ref rq)) → atp f_2 u0 (fd 2 (.ref mq)) → atp f_2 u0 (fd 9 (.int g2_u0_9)) → atp f_2 u0 (fd 10 (.int g2_u0_10)) → atp f_2 rq (fd 0 (.int g2_rq_0)) → atp f_2 rq (fd 1 (.int g2_rq_1)) → atp f_2 rq (fd 2 (.int g2_rq_2)) → atp f_2 rq (fd 3 (.int g2_rq_3)) → atp f_2 mq (fd 0 (.int g2_mq_0)) → atp f_2 mq (fd 1 (.int g2_mq_1)) → atp f_2 mq (fd 2 (.int g2_mq_2)) → atp f_2 mq (fd 3 (.int g2_mq_3)) → g2_u0_9.toInt - 60 ≤ g2_rq_0.toInt → g2_rq_2.toInt ≤ g2_u0_9.toInt + 60 → g2_u0_10.toInt - 60 ≤ g2_rq_1.toInt → g2_rq_3.toInt ≤ g2_u0_10.toInt + 60 → g2_u0_9.toInt - 60 ≤ g2_mq_0.toInt → g2_mq_2.toInt ≤ g2_u0_9.toInt + 60 → g2_u0_10.toInt - 60 ≤ g2_mq_1.toInt → g2_mq_3.toInt ≤ g2_u0_10.toInt + 60 → W p l e rm_s_X2_advance s m args below meth c H locs 0 0 Q (F0 m 2 ls []) := by
    intro n2
    induction n2 with
    | zero => intro ls f_2 H locs v2_2 g2_u0_9 g2_u0_10 g2_rq_0 g2_rq_1 g2_rq_2 g2_rq_3 g2_mq_0 g2_mq_1 g2_mq_2 g2_mq_3 hm2 hl h t_2 o_2 iv2_2 ig2_u0_9 ig2_u0_10 ig2_rq_0 ig2_rq_1 ig2_rq_2 ig2_rq_3 ig2_mq_0 ig2_mq_1 ig2_mq_2 ig2_mq_3 k2_u0_3 k2_u0_2 k2_u0_9 k2_u0_10 k2_rq_0 k2_rq_1 k2_rq_2 k2_rq_3 k2_mq_0 k2_mq_1 k2_mq_2 k2_mq_3 hv2_0 hv2_1 hv2_2 hv2_3 hv2_4 hv2_5 hv2_6 hv2_7; exact absurd hm2 (by omega)
    | succ n2 ih2 =>
      intro ls f_2 H locs v2_2 g2_u0_9 g2_u0_10 g2_rq_0 g2_rq_1 g2_rq_2 g2_rq_3 g2_mq_0 g2_mq_1 g2_mq_2 g2_mq_3 hm2 hl h t_2 o_2 iv2_2 ig2_u0_9 ig2_u0_10 ig2_rq_0 ig2_rq_1 ig2_rq_2 ig2_rq_3 ig2_mq_0 ig2_mq_1 ig2_mq_2 ig2_mq_3 k2_u0_3 k2_u0_2 k2_u0_9 k2_u0_10 k2_rq_0 k2_rq_1 k2_rq_2 k2_rq_3 k2_mq_0 k2_mq_1 k2_mq_2 k2_mq_3 hv2_0 hv2_1 hv2_2 hv2_3 hv2_4 hv2_5 hv2_6 hv2_7
      refine lv_iload_n hx hb dX2_advance_2 rfl (lv_at hl 2 rfl) ?_
      refine lv_iload_n hx hb dX2_advance_3 rfl (lv_at hl 1 rfl) ?_
      refine lv_icmp_ge (tgt := 39) hx hb dX2_advance_4 (by decide) (fun c1 => ?_) (fun c1 => ?_)
      · have c2 : u1.toInt ≤ v2_2.toInt := Int32.le_iff_toInt_le.mp c1
        have gj6 : GJ τ f_2 u0 rq mq := ⟨g2_u0_9, g2_u0_10, g2_rq_0, g2_rq_1, g2_rq_2, g2_rq_3, g2_mq_0, g2_mq_1, g2_mq_2, g2_mq_3, ⟨trq, tmq⟩, ⟨k2_u0_3, k2_u0_2, k2_u0_9, k2_u0_10⟩, ⟨k2_rq_0, k2_rq_1, k2_rq_2, k2_rq_3⟩, ⟨k2_mq_0, k2_mq_1, k2_mq_2, k2_mq_3⟩, ⟨ig2_u0_9, ig2_u0_10, ig2_rq_0, ig2_rq_1, ig2_rq_2, ig2_rq_3, ig2_mq_0, ig2_mq_1, ig2_mq_2, ig2_mq_3⟩, ⟨by omega, by omega, by omega, by omega⟩, ⟨by omega, by omega, by omega, by omega⟩⟩
        exact u_vret C h hr hQ (⟨t_2, o_2, gj6⟩) (Nat.le_of_ble_eq_true rfl) (Nat.le_of_ble_eq_true rfl) dX2_advance_39
      · have c3 : v2_2.toInt < u1.toInt := Int32.lt_iff_toInt_lt.mp (iv_nle c1)
        have i4 : iv v2_2 0 2147483646 := iv_Ll c3 iv2_2 hu1 (by decide)
        have i5 : iv u1 1 2147483647 := iv_Lr c3 iv2_2 hu1 (by decide)
        refine lv_aload_n hx hb dX2_advance_7 rfl (lv_at hl 0 rfl) ?_
        have gj7 : GJ τ f_2 u0 rq mq := ⟨g2_u0_9, g2_u0_10, g2_rq_0, g2_rq_1, g2_rq_2, g2_rq_3, g2_mq_0, g2_mq_1, g2_mq_2, g2_mq_3, ⟨trq, tmq⟩, ⟨k2_u0_3, k2_u0_2, k2_u0_9, k2_u0_10⟩, ⟨k2_rq_0, k2_rq_1, k2_rq_2, k2_rq_3⟩, ⟨k2_mq_0, k2_mq_1, k2_mq_2, k2_mq_3⟩, ⟨ig2_u0_9, ig2_u0_10, ig2_rq_0, ig2_rq_1, ig2_rq_2, ig2_rq_3, ig2_mq_0, ig2_mq_1, ig2_mq_2, ig2_mq_3⟩, ⟨by omega, by omega, by omega, by omega⟩, ⟨by omega, by omega, by omega, by omega⟩⟩
        obtain ⟨_, r8⟩ := t_rec t_2 hu0 (by decide) wf_20
        refine k_v (r_V C h hl (As := []) (rest := []) (s_X2_widen l D G b0 τ f_2 t_2 u0 hu0 rq mq gj7) r8 (Cn := RX2) (T := TX2) (N := 11) rfl rfl mk_X2_widen w_691 w_693 w_14 w_694 ⟨Nat.le_of_ble_eq_true rfl, Nat.le_of_ble_eq_true rfl⟩ rfl (Nat.le_of_ble_eq_true rfl) ⟨Nat.le_of_ble_eq_true rfl, Nat.le_of_ble_eq_true rfl⟩ rfl dX2_advance_8) h (fun f10 H locs p11 h => ?_)
        obtain ⟨tf10, ogf10, gjf10⟩ := p11
        have of10 : Fr [20, 21, 23, 20001, 20002, 23001, 23002, 23003, 23004] τ f f10 := Fr.tr o_2 ogf10 (by decide) (by decide)
        have k12 := atp.fr k2_u0_3 ogf10 hu0 (by decide)
        have k13 := atp.fr k2_u0_2 ogf10 hu0 (by decide)
        have k14 := atp.fr k2_u0_9 ogf10 hu0 (by decide)
        have k15 := atp.fr k2_u0_10 ogf10 hu0 (by decide)
        have k16 := atp.fr k2_mq_0 ogf10 tmq (by decide)
        have k17 := atp.fr k2_mq_1 ogf10 tmq (by decide)
        have k18 := atp.fr k2_mq_2 ogf10 tmq (by decide)
        have k19 := atp.fr k2_mq_3 ogf10 tmq (by decide)
        obtain ⟨sxf10, syf10, rlf10, rbf10, rrf10, rtf10, mlf10, mbf10, mrf10, mtf10, -, ⟨kg3f10, kg2f10, ksxf10, ksyf10⟩, ⟨krlf10, krbf10, krrf10, krtf10⟩, ⟨kmlf10, kmbf10, kmrf10, kmtf10⟩, ⟨isxf10, isyf10, irlf10, irbf10, irrf10, irtf10, imlf10, imbf10, imrf10, imtf10⟩, ⟨gr1f10, gr2f10, gr3f10, gr4f10⟩, ⟨gr5f10, gr6f10, gr7f10, gr8f10⟩⟩ := gjf10
        refine lv_aload_n hx hb dX2_advance_11 rfl (lv_at hl 0 rfl) ?_
        have gj20 : GJ τ f10 u0 rq mq := ⟨sxf10, syf10, rlf10, rbf10, rrf10, rtf10, mlf10, mbf10, mrf10, mtf10, ⟨trq, tmq⟩, ⟨kg3f10, kg2f10, ksxf10, ksyf10⟩, ⟨krlf10, krbf10, krrf10, krtf10⟩, ⟨kmlf10, kmbf10, kmrf10, kmtf10⟩, ⟨isxf10, isyf10, irlf10, irbf10, irrf10, irtf10, imlf10, imbf10, imrf10, imtf10⟩, ⟨by omega, by omega, by omega, by omega⟩, ⟨by omega, by omega, by omega, by omega⟩⟩
        obtain ⟨_, r21⟩ := t_rec tf10 hu0 (by decide) wf_20
        refine k_v (r_V C h hl (As := []) (rest := []) (s_X2_gather l D G b0 τ f10 tf10 u0 hu0 rq mq gj20) r21 (Cn := RX2) (T := TX2) (N := 11) rfl rfl mk_X2_gather w_697 w_699 w_15 w_700 ⟨Nat.le_of_ble_eq_true rfl, Nat.le_of_ble_eq_true rfl⟩ rfl (Nat.le_of_ble_eq_true rfl) ⟨Nat.le_of_ble_eq_true rfl, Nat.le_of_ble_eq_true rfl⟩ rfl dX2_advance_12) h (fun f23 H locs p24 h => ?_)
        obtain ⟨tf23, ogf23⟩ := p24
        have of23 : Fr [20, 21, 23, 20001, 20002, 23001, 23002, 23003, 23004] τ f f23 := Fr.tr of10 ogf23 (by decide) (by decide)
        have k25 := atp.fr kg3f10 ogf23 hu0 (by decide)
        have k26 := atp.fr kg2f10 ogf23 hu0 (by decide)
        have k27 := atp.fr ksxf10 ogf23 hu0 (by decide)
        have k28 := atp.fr ksyf10 ogf23 hu0 (by decide)
        have k29 := atp.fr kmlf10 ogf23 tmq (by decide)
        have k30 := atp.fr kmbf10 ogf23 tmq (by decide)
        have k31 := atp.fr kmrf10 ogf23 tmq (by decide)
        have k32 := atp.fr kmtf10 ogf23 tmq (by decide)
        have k33 := atp.fr krlf10 ogf23 trq (by decide)
        have k34 := atp.fr krbf10 ogf23 trq (by decide)
        have k35 := atp.fr krrf10 ogf23 trq (by decide)
        have k36 := atp.fr krtf10 ogf23 trq (by decide)
        refine lv_aload_n hx hb dX2_advance_15 rfl (lv_at hl 0 rfl) ?_
        refine t_getr (tq := 21) C h tf23 hu0 (by decide) wf_20 rfl fl_X2_11 dX2_advance_16 (fun q37 tq37 => ?_)
        refine lv_astore_n (lv' := [(3, .ref q37), (0, .ref u0), (1, .int u1), (2, .int v2_2)]) hx hb dX2_advance_19 rfl hl (by decide) rfl (fun ls hl => ?_)
        refine lv_aload_n hx hb dX2_advance_20 rfl (lv_at hl 1 rfl) ?_
        refine lv_aload_n hx hb dX2_advance_21 rfl (lv_at hl 1 rfl) ?_
        refine t_getr (tq := 21) C h tf23 hu0 (by decide) wf_20 rfl fl_X2_15 dX2_advance_22 (fun q38 tq38 => ?_)
        refine t_put C h tf23 of23 hu0 (by decide) (by decide) (by decide) wf_20 fw_20 (k := 0) rfl flw_X2_11 (Or.inr ⟨_, _, _, rfl, rfl⟩) (v := .ref q38) rfl rfl ⟨_, rfl, tq38⟩ dX2_advance_25 (fun f39 H locs h tf39 of39 hq ha_ hn_ hk_ => ?_)
        have k40 := hk_ 3 _ (by decide) k25
        have k41 := hk_ 2 _ (by decide) k26
        have k42 := hk_ 9 _ (by decide) k27
        have k43 := hk_ 10 _ (by decide) k28
        have k44 := atp.tg k29 hq tmq (by decide)
        have k45 := atp.tg k30 hq tmq (by decide)
        have k46 := atp.tg k31 hq tmq (by decide)
        have k47 := atp.tg k32 hq tmq (by decide)
        have k48 := atp.tg k33 hq trq (by decide)
        have k49 := atp.tg k34 hq trq (by decide)
        have k50 := atp.tg k35 hq trq (by decide)
        have k51 := atp.tg k36 hq trq (by decide)
        have k52 := ha_
        refine lv_aload_n hx hb dX2_advance_28 rfl (lv_at hl 1 rfl) ?_
        refine lv_aload_n hx hb dX2_advance_29 rfl (lv_at hl 0 rfl) ?_
        refine t_put C h tf39 of39 hu0 (by decide) (by decide) (by decide) wf_20 fw_20 (k := 1) rfl flw_X2_15 (Or.inr ⟨_, _, _, rfl, rfl⟩) (v := .ref q37) rfl rfl ⟨_, rfl, tq37⟩ dX2_advance_30 (fun f53 H locs h tf53 of53 hq ha_ hn_ hk_ => ?_)
        have k54 := hk_ 3 _ (by decide) k40
        have k55 := hk_ 2 _ (by decide) k41
        have k56 := hk_ 9 _ (by decide) k42
        have k57 := hk_ 10 _ (by decide) k43
        have k58 := atp.tg k44 hq tmq (by decide)
        have k59 := atp.tg k45 hq tmq (by decide)
        have k60 := atp.tg k46 hq tmq (by decide)
        have k61 := atp.tg k47 hq tmq (by decide)
        have k62 := atp.tg k48 hq trq (by decide)
        have k63 := atp.tg k49 hq trq (by decide)
        have k64 := atp.tg k50 hq trq (by decide)
        have k65 := atp.tg k51 hq trq (by decide)
        have k66 := ha_
        refine i_inc hx hb dX2_advance_33 hl (k := 3) rfl i4 rfl (lo := 1) (hi := 2147483647) (by decide) (by decide) (lv' := fun v => [(2, .int v), (3, .ref q37), (0, .ref u0), (1, .int u1)]) (fun _ => rfl) (fun z67 ls ez67 mz67 iz67 hl => ?_)
        refine lv_goto (tgt := 2) hx hb dX2_advance_36 (by decide) ?_
        exact ih2 ls f53 H locs z67 sxf10 syf10 rlf10 rbf10 rrf10 rtf10 mlf10 mbf10 mrf10 mtf10 (show 2147483647 - z67.toInt < _ by omega) (lv_cons hl 2 rfl (lv_cons hl 3 rfl (lv_cons hl 0 rfl (lv_nil hl)))) h tf53 of53 (iv_w iz67 (by decide)) isxf10 isyf10 irlf10 irbf10 irrf10 irtf10 imlf10 imbf10 imrf10 imtf10 k54 k55 k56 k57 k62 k63 k64 k65 k58 k59 k60 k61 (show sxf10.toInt - 60 ≤ rlf10.toInt by omega) (show rrf10.toInt ≤ sxf10.toInt + 60 by omega) (show syf10.toInt - 60 ≤ rbf10.toInt by omega) (show rtf10.toInt ≤ syf10.toInt + 60 by omega) (show sxf10.toInt - 60 ≤ mlf10.toInt by omega) (show mrf10.toInt ≤ sxf10.toInt + 60 by omega) (show syf10.toInt - 60 ≤ mbf10.toInt by omega) (show mtf10.toInt ≤ syf10.toInt + 60 by omega)
  refine lv_iconst (v := 0) hx hb dX2_advance_0 (by decide) ?_
  refine lv_istore_n (lv' := [(2, .int 0), (0, .ref u0), (1, .int u1)]) hx hb dX2_advance_1 rfl hl (by decide) rfl (fun ls hl => ?_)
  exact L2 2147483648 ls f s.heap [] 0 sx sy rl rb rr rt ml mb mr mt (by decide) (lv_cons hl 1 rfl (lv_cons hl 2 rfl (lv_cons hl 0 rfl (lv_nil hl)))) h t o ⟨by decide, by decide⟩ isx isy irl irb irr irt iml imb imr imt kg3 kg2 ksx ksy krl krb krr krt kml kmb kmr kmt (show sx.toInt - 60 ≤ rl.toInt by omega) (show rr.toInt ≤ sx.toInt + 60 by omega) (show sy.toInt - 60 ≤ rb.toInt by omega) (show rt.toInt ≤ sy.toInt + 60 by omega) (show sx.toInt - 60 ≤ ml.toInt by omega) (show mr.toInt ≤ sx.toInt + 60 by omega) (show sy.toInt - 60 ≤ mb.toInt by omega) (show mt.toInt ≤ sy.toInt + 60 by omega)
abbrev rm_s_X2_go : Room := { frames := 4, cells := 0, slots := 0, locals := 88 }
set_option maxRecDepth 100000 in
set_option maxHeartbeats 4000000 in
theorem s_X2_go (l : Launch) (D : va_G) (G : Nat → Nat) (b0 : Nat) (τ : Nat → Nat) (f : hM) (t : TI G 9 τ f) (u0 : Nat) (hu0 : τ u0 = 20) (u1 : Nat) (hu1 : τ u1 = 1) (u2 : Int32) (hu2 : iv u2 0 3) (u3 : Int32) (hu3 : iv u3 (-2147483648) 2147483647) (u4 : Int32) (hu4 : iv u4 (-2147483648) 2147483647) (rq mq : Nat) (hGJ : GJ τ f u0 rq mq) : mV l yX2_go cX2_go 5 rm_s_X2_go D G b0 f [.ref u0, .ref u1, .int u2, .int u3, .int u4] (fun f1 => TI G 9 τ f1 ∧ Fr [20, 21, 22, 23, 24, 25, 20001, 20002, 20007, 20008, 20009, 20010, 20011, 22001, 22002, 22003, 22004, 23001, 23002, 23003, 23004] τ f f1 ∧ GJ τ f1 u0 rq mq) := by
  refine met2 (own := RX2) (by decide) rfl (Nat.le_of_ble_eq_true rfl) ?_
  intro p e s m args below meth c ls Q hQ C hr hini hl h
  have hl : lv_has ls 5 [(0, .ref u0), (1, .ref u1), (2, .int u2), (3, .int u3), (4, .int u4)] := hl
  obtain ⟨hx, hb, hml, hown, hts, hE0, hlk⟩ := id C
  have o := Fr.rf [20, 21, 22, 23, 24, 25, 20001, 20002, 20007, 20008, 20009, 20010, 20011, 22001, 22002, 22003, 22004, 23001, 23002, 23003, 23004] τ f
  obtain ⟨sx, sy, rl, rb, rr, rt, ml, mb, mr, mt, ⟨trq, tmq⟩, ⟨kg3, kg2, ksx, ksy⟩, ⟨krl, krb, krr, krt⟩, ⟨kml, kmb, kmr, kmt⟩, ⟨isx, isy, irl, irb, irr, irt, iml, imb, imr, imt⟩, ⟨gr1, gr2, gr3, gr4⟩, ⟨gr5, gr6, gr7, gr8⟩⟩ := hGJ
  refine lv_aload_n hx hb dX2_go_0 rfl (lv_at hl 0 rfl) ?_
  refine lv_aload_n hx hb dX2_go_1 rfl (lv_at hl 1 rfl) ?_
  refine lv_iload_n hx hb dX2_go_2 rfl (lv_at hl 2 rfl) ?_
  refine lv_iload_n hx hb dX2_go_3 rfl (lv_at hl 3 rfl) ?_
  have gj1 : GJ τ f u0 rq mq := ⟨sx, sy, rl, rb, rr, rt, ml, mb, mr, mt, ⟨trq, tmq⟩, ⟨kg3, kg2, ksx, ksy⟩, ⟨krl, krb, krr, krt⟩, ⟨kml, kmb, kmr, kmt⟩, ⟨isx, isy, irl, irb, irr, irt, iml, imb, imr, imt⟩, ⟨by omega, by omega, by omega, by omega⟩, ⟨by omega, by omega, by omega, by omega⟩⟩
  obtain ⟨_, r2⟩ := t_rec t hu0 (by decide) wf_20
  refine k_v (r_V C h hl (As := [.ref u1, .int u2, .int u3]) (rest := []) (s_X2_open l D G b0 τ f t u0 hu0 u1 hu1 u2 hu2 u3 hu3 rq mq gj1) r2 (Cn := RX2) (T := TX2) (N := 11) rfl rfl mk_X2_open w_663 w_664 w_665 w_666 ⟨Nat.le_of_ble_eq_true rfl, Nat.le_of_ble_eq_true rfl⟩ rfl (Nat.le_of_ble_eq_true rfl) ⟨Nat.le_of_ble_eq_true rfl, Nat.le_of_ble_eq_true rfl⟩ rfl dX2_go_4) h (fun f4 H locs p5 h => ?_)
  obtain ⟨tf4, ogf4, gjf4⟩ := p5
  have of4 : Fr [20, 21, 22, 23, 24, 25, 20001, 20002, 20007, 20008, 20009, 20010, 20011, 22001, 22002, 22003, 22004, 23001, 23002, 23003, 23004] τ f f4 := Fr.tr o ogf4 (by decide) (by decide)
  have k6 := atp.fk kg3 ogf4 hu0 (by decide) (by decide)
  have k7 := atp.fk kg2 ogf4 hu0 (by decide) (by decide)
  obtain ⟨sxf4, syf4, rlf4, rbf4, rrf4, rtf4, mlf4, mbf4, mrf4, mtf4, -, ⟨kg3f4, kg2f4, ksxf4, ksyf4⟩, ⟨krlf4, krbf4, krrf4, krtf4⟩, ⟨kmlf4, kmbf4, kmrf4, kmtf4⟩, ⟨isxf4, isyf4, irlf4, irbf4, irrf4, irtf4, imlf4, imbf4, imrf4, imtf4⟩, ⟨gr1f4, gr2f4, gr3f4, gr4f4⟩, ⟨gr5f4, gr6f4, gr7f4, gr8f4⟩⟩ := gjf4
  refine lv_aload_n hx hb dX2_go_7 rfl (lv_at hl 0 rfl) ?_
  refine lv_iload hx hb dX2_go_8 (lv_at hl 4 rfl) ?_
  have gj8 : GJ τ f4 u0 rq mq := ⟨sxf4, syf4, rlf4, rbf4, rrf4, rtf4, mlf4, mbf4, mrf4, mtf4, ⟨trq, tmq⟩, ⟨kg3f4, kg2f4, ksxf4, ksyf4⟩, ⟨krlf4, krbf4, krrf4, krtf4⟩, ⟨kmlf4, kmbf4, kmrf4, kmtf4⟩, ⟨isxf4, isyf4, irlf4, irbf4, irrf4, irtf4, imlf4, imbf4, imrf4, imtf4⟩, ⟨by omega, by omega, by omega, by omega⟩, ⟨by omega, by omega, by omega, by omega⟩⟩
  obtain ⟨_, r9⟩ := t_rec tf4 hu0 (by decide) wf_20
  refine k_v (r_V C h hl (As := [.int u4]) (rest := []) (s_X2_advance l D G b0 τ f4 tf4 u0 hu0 u4 hu4 rq mq gj8) r9 (Cn := RX2) (T := TX2) (N := 11) rfl rfl mk_X2_advance w_687 w_688 w_689 w_690 ⟨Nat.le_of_ble_eq_true rfl, Nat.le_of_ble_eq_true rfl⟩ rfl (Nat.le_of_ble_eq_true rfl) ⟨Nat.le_of_ble_eq_true rfl, Nat.le_of_ble_eq_true rfl⟩ rfl dX2_go_10) h (fun f11 H locs p12 h => ?_)
  obtain ⟨tf11, ogf11, gjf11⟩ := p12
  have of11 : Fr [20, 21, 22, 23, 24, 25, 20001, 20002, 20007, 20008, 20009, 20010, 20011, 22001, 22002, 22003, 22004, 23001, 23002, 23003, 23004] τ f f11 := Fr.tr of4 ogf11 (by decide) (by decide)
  have k13 := atp.fk kg3f4 ogf11 hu0 (by decide) (by decide)
  have k14 := atp.fk kg2f4 ogf11 hu0 (by decide) (by decide)
  have k15 := atp.fk ksxf4 ogf11 hu0 (by decide) (by decide)
  have k16 := atp.fk ksyf4 ogf11 hu0 (by decide) (by decide)
  have k17 := atp.fr kmlf4 ogf11 tmq (by decide)
  have k18 := atp.fr kmbf4 ogf11 tmq (by decide)
  have k19 := atp.fr kmrf4 ogf11 tmq (by decide)
  have k20 := atp.fr kmtf4 ogf11 tmq (by decide)
  obtain ⟨sxf11, syf11, rlf11, rbf11, rrf11, rtf11, mlf11, mbf11, mrf11, mtf11, -, ⟨kg3f11, kg2f11, ksxf11, ksyf11⟩, ⟨krlf11, krbf11, krrf11, krtf11⟩, ⟨kmlf11, kmbf11, kmrf11, kmtf11⟩, ⟨isxf11, isyf11, irlf11, irbf11, irrf11, irtf11, imlf11, imbf11, imrf11, imtf11⟩, ⟨gr1f11, gr2f11, gr3f11, gr4f11⟩, ⟨gr5f11, gr6f11, gr7f11, gr8f11⟩⟩ := gjf11
  have gj21 : GJ τ f11 u0 rq mq := ⟨sxf11, syf11, rlf11, rbf11, rrf11, rtf11, mlf11, mbf11, mrf11, mtf11, ⟨trq, tmq⟩, ⟨kg3f11, kg2f11, ksxf11, ksyf11⟩, ⟨krlf11, krbf11, krrf11, krtf11⟩, ⟨kmlf11, kmbf11, kmrf11, kmtf11⟩, ⟨isxf11, isyf11, irlf11, irbf11, irrf11, irtf11, imlf11, imbf11, imrf11, imtf11⟩, ⟨by omega, by omega, by omega, by omega⟩, ⟨by omega, by omega, by omega, by omega⟩⟩
  exact u_vret C h hr hQ (⟨tf11, of11, gj21⟩) (Nat.le_of_ble_eq_true rfl) (Nat.le_of_ble_eq_true rfl) dX2_go_13
abbrev rm_s_X2_seen : Room := { frames := 1, cells := 0, slots := 0, locals := 22 }
set_option maxRecDepth 100000 in
set_option maxHeartbeats 4000000 in
theorem s_X2_seen (l : Launch) (D : va_G) (G : Nat → Nat) (b0 : Nat) (τ : Nat → Nat) (f : hM) (t : TI G 9 τ f) (u0 : Nat) (hu0 : τ u0 = 20) (u1 : Int32) (hu1 : iv u1 (-2147483648) 2147483647) (u2 : Int32) (hu2 : iv u2 (-2147483648) 2147483647) (rq mq : Nat) (hGJ : GJ τ f u0 rq mq) : mL l yX2_seen cX2_seen 3 rm_s_X2_seen D G b0 f [.ref u0, .int u1, .int u2] (fun r f1 => TI G 9 τ f1 ∧ Fr [] τ f f1) := by
  refine met2 (own := RX2) (by decide) rfl (Nat.le_of_ble_eq_true rfl) ?_
  intro p e s m args below meth c ls Q hQ C hr hini hl h
  have hl : lv_has ls 3 [(0, .ref u0), (1, .int u1), (2, .int u2)] := hl
  obtain ⟨hx, hb, hml, hown, hts, hE0, hlk⟩ := id C
  have o := Fr.rf [] τ f
  obtain ⟨sx, sy, rl, rb, rr, rt, ml, mb, mr, mt, ⟨trq, tmq⟩, ⟨kg3, kg2, ksx, ksy⟩, ⟨krl, krb, krr, krt⟩, ⟨kml, kmb, kmr, kmt⟩, ⟨isx, isy, irl, irb, irr, irt, iml, imb, imr, imt⟩, ⟨gr1, gr2, gr3, gr4⟩, ⟨gr5, gr6, gr7, gr8⟩⟩ := hGJ
  refine lv_aload_n hx hb dX2_seen_0 rfl (lv_at hl 0 rfl) ?_
  refine t_getfd C h t hu0 (by decide) wf_20 (v := .ref rq) kg3 fl_X2_25 dX2_seen_1 ?_
  refine lv_iload_n hx hb dX2_seen_4 rfl (lv_at hl 1 rfl) ?_
  refine lv_iload_n hx hb dX2_seen_5 rfl (lv_at hl 2 rfl) ?_
  obtain ⟨_, r1⟩ := t_rec t trq (by decide) wf_23
  refine k_i (r_V C h hl (As := [.int u1, .int u2]) (rest := []) (s_X1_holdsk l D G b0 τ f t rq trq u1 hu1 u2 hu2 rl irl krl rb irb krb rr irr krr rt irt krt) r1 (Cn := RX1) (T := TX1) (N := 4) rfl rfl mk_X1_holds w_713 w_714 w_715 w_716 ⟨Nat.le_of_ble_eq_true rfl, Nat.le_of_ble_eq_true rfl⟩ rfl (Nat.le_of_ble_eq_true rfl) ⟨Nat.le_of_ble_eq_true rfl, Nat.le_of_ble_eq_true rfl⟩ rfl dX2_seen_6) h (fun r2 f3 H locs p4 h => ?_)
  obtain ⟨ir2, tf3, ogf3, cnr2⟩ := p4
  have egf3 := Fr.nil2 ogf3
  subst egf3
  refine lv_if_eq (tgt := 26) hx hb dX2_seen_9 (by decide) (fun c5 => ?_) (fun c5 => ?_)
  · have c6 : r2.toInt = 0 := congrArg Int32.toInt c5
    have i7 : iv r2 0 0 := iv_Q c6 ir2 (iv_k (x := 0) (k := 0) rfl) (by decide)
    refine lv_lconst (v := 0) hx hb dX2_seen_26 (by decide) ?_
    exact u_lret C h hr hQ (⟨t, o⟩) (Nat.le_of_ble_eq_true rfl) (Nat.le_of_ble_eq_true rfl) dX2_seen_27
  · have c8 : r2.toInt ≠ 0 := fun z_ => c5 (Int32.toInt_inj.mp z_)
    have i9 : iv r2 1 1 := iv_Nl c8 ir2 (by decide)
    obtain ⟨i10, i11, i12, i13⟩ := cnr2 c8
    have i14 : iv u1 (-60) 69 := ⟨by omega, by omega⟩
    have i15 : iv u2 (-60) 69 := ⟨by omega, by omega⟩
    refine lv_aload_n hx hb dX2_seen_12 rfl (lv_at hl 0 rfl) ?_
    refine t_getr (tq := 21) C h t hu0 (by decide) wf_20 rfl fl_X2_11 dX2_seen_13 (fun q16 tq16 => ?_)
    refine lv_aload_n hx hb dX2_seen_16 rfl (lv_at hl 0 rfl) ?_
    refine lv_iload_n hx hb dX2_seen_17 rfl (lv_at hl 1 rfl) ?_
    refine lv_iload_n hx hb dX2_seen_18 rfl (lv_at hl 2 rfl) ?_
    obtain ⟨_, r17⟩ := t_rec t hu0 (by decide) wf_20
    refine k_i (r_V C h hl (As := [.int u1, .int u2]) (rest := [.ref q16]) (s_X2_cell l D G b0 τ f t u0 hu0 u1 (iv_w i14 (by decide)) u2 (iv_w i15 (by decide)) sx isx ksx sy isy ksy) r17 (Cn := RX2) (T := TX2) (N := 11) rfl rfl mk_X2_cell w_671 w_673 w_12 w_674 ⟨Nat.le_of_ble_eq_true rfl, Nat.le_of_ble_eq_true rfl⟩ rfl (Nat.le_of_ble_eq_true rfl) ⟨Nat.le_of_ble_eq_true rfl, Nat.le_of_ble_eq_true rfl⟩ rfl dX2_seen_19) h (fun r18 f19 H locs p20 h => ?_)
    obtain ⟨ir18, tf19, ogf19, x0r18⟩ := p20
    have egf19 := Fr.nil2 ogf19
    subst egf19
    refine t_lald C h t tq16 (by decide) wf_21 (ix_o (by omega)) dX2_seen_22 (fun w21 => ?_)
    refine lv_goto (tgt := 27) hx hb dX2_seen_23 (by decide) ?_
    exact u_lret C h hr hQ (⟨t, o⟩) (Nat.le_of_ble_eq_true rfl) (Nat.le_of_ble_eq_true rfl) dX2_seen_27
abbrev rm_s_X2_total : Room := { frames := 1, cells := 0, slots := 0, locals := 23 }
set_option maxRecDepth 100000 in
set_option maxHeartbeats 4000000 in
theorem s_X2_total (l : Launch) (D : va_G) (G : Nat → Nat) (b0 : Nat) (τ : Nat → Nat) (f : hM) (t : TI G 9 τ f) (u0 : Nat) (hu0 : τ u0 = 20) (rq mq : Nat) (hGJ : GJ τ f u0 rq mq) : mI l yX2_total cX2_total 6 (.int) rm_s_X2_total D G b0 f [.ref u0] (fun r f1 => iv r (-2147483648) 2147483647 ∧ TI G 9 τ f1 ∧ Fr [] τ f f1) := by
  refine met2 (own := RX2) (by decide) rfl (Nat.le_of_ble_eq_true rfl) ?_
  intro p e s m args below meth c ls Q hQ C hr hini hl h
  have hl : lv_has ls 6 [(0, .ref u0)] := hl
  obtain ⟨hx, hb, hml, hown, hts, hE0, hlk⟩ := id C
  have o := Fr.rf [] τ f
  obtain ⟨sx, sy, rl, rb, rr, rt, ml, mb, mr, mt, ⟨trq, tmq⟩, ⟨kg3, kg2, ksx, ksy⟩, ⟨krl, krb, krr, krt⟩, ⟨kml, kmb, kmr, kmt⟩, ⟨isx, isy, irl, irb, irr, irt, iml, imb, imr, imt⟩, ⟨gr1, gr2, gr3, gr4⟩, ⟨gr5, gr6, gr7, gr8⟩⟩ := hGJ
  have L10 : ∀ (n10 : Nat) (ls : Array Slot) (f_10 : hM) (H : Heap) (locs : List Loc) (v10_1 : Int64) (v10_3 : Int32), 70 - v10_3.toInt < (n10 : Int) → lv_has ls 6 [(0, .ref u0), (1, .long v10_1), (3, .int v10_3)] → hw D b0 s.heap f_10 H locs → TI G 9 τ f_10 → Fr [] τ f f_10 → iv v10_3 (-60) 70 → atp f_10 u0 (fd 3 (.ref rq)) → atp f_10 u0 (fd 2 (.ref mq)) → atp f_10 u0 (fd 9 (.int sx)) → atp f_10 u0 (fd 10 (.int sy)) → atp f_10 rq (fd 0 (.int rl)) → atp f_10 rq (fd 1 (.int rb)) → atp f_10 rq (fd 2 (.int rr)) → atp f_10 rq (fd 3 (.int rt)) → atp f_10 mq (fd 0 (.int ml)) → atp f_10 mq (fd 1 (.int mb)) → atp f_10 mq (fd 2 (.int mr)) → atp f_10 mq (fd 3 (.int mt)) → rl.toInt ≤ v10_3.toInt → W p l e rm_s_X2_total s m args below meth c H locs 0 0 Q (F0 m 10 ls []) := by
    intro n10
    induction n10 with
    | zero => intro ls f_10 H locs v10_1 v10_3 hm10 hl h t_10 o_10 iv10_3 k10_u0_3 k10_u0_2 k10_u0_9 k10_u0_10 k10_rq_0 k10_rq_1 k10_rq_2 k10_rq_3 k10_mq_0 k10_mq_1 k10_mq_2 k10_mq_3 hv10_0; exact absurd hm10 (by omega)
    | succ n10 ih10 =>
      intro ls f_10 H locs v10_1 v10_3 hm10 hl h t_10 o_10 iv10_3 k10_u0_3 k10_u0_2 k10_u0_9 k10_u0_10 k10_rq_0 k10_rq_1 k10_rq_2 k10_rq_3 k10_mq_0 k10_mq_1 k10_mq_2 k10_mq_3 hv10_0
      have L49 : ∀ (n49 : Nat) (ls : Array Slot) (f_49 : hM) (H : Heap) (locs : List Loc) (v49_1 : Int64) (v49_4 : Int32) (v49_5 : Int32), 15020 - v49_5.toInt < (n49 : Int) → lv_has ls 6 [(0, .ref u0), (1, .long v49_1), (3, .int v10_3), (4, .int v49_4), (5, .int v49_5)] → hw D b0 s.heap f_49 H locs → TI G 9 τ f_49 → Fr [] τ f f_49 → iv v10_3 (-60) 69 → iv v49_4 (-20000) 15004 → iv v49_5 124 15020 → atp f_49 u0 (fd 3 (.ref rq)) → atp f_49 u0 (fd 2 (.ref mq)) → atp f_49 u0 (fd 9 (.int sx)) → atp f_49 u0 (fd 10 (.int sy)) → atp f_49 rq (fd 0 (.int rl)) → atp f_49 rq (fd 1 (.int rb)) → atp f_49 rq (fd 2 (.int rr)) → atp f_49 rq (fd 3 (.int rt)) → atp f_49 mq (fd 0 (.int ml)) → atp f_49 mq (fd 1 (.int mb)) → atp f_49 mq (fd 2 (.int mr)) → atp f_49 mq (fd 3 (.int mt)) → W p l e rm_s_X2_total s m args below meth c H locs 0 0 Q (F0 m 49 ls []) := by
        intro n49
        induction n49 with
        | zero => intro ls f_49 H locs v49_1 v49_4 v49_5 hm49 hl h t_49 o_49 jv49_3 iv49_4 iv49_5 k49_u0_3 k49_u0_2 k49_u0_9 k49_u0_10 k49_rq_0 k49_rq_1 k49_rq_2 k49_rq_3 k49_mq_0 k49_mq_1 k49_mq_2 k49_mq_3; exact absurd hm49 (by omega)
        | succ n49 ih49 =>
          intro ls f_49 H locs v49_1 v49_4 v49_5 hm49 hl h t_49 o_49 jv49_3 iv49_4 iv49_5 k49_u0_3 k49_u0_2 k49_u0_9 k49_u0_10 k49_rq_0 k49_rq_1 k49_rq_2 k49_rq_3 k49_mq_0 k49_mq_1 k49_mq_2 k49_mq_3
          refine lv_iload hx hb dX2_total_49 (lv_at hl 4 rfl) ?_
          refine lv_iload hx hb dX2_total_51 (lv_at hl 3 rfl) ?_
          refine lv_icmp_gt (tgt := 72) hx hb dX2_total_53 (by decide) (fun c1 => ?_) (fun c1 => ?_)
          · have c2 : v49_4.toInt < v49_5.toInt := Int32.lt_iff_toInt_lt.mp c1
            refine i_inc hx hb dX2_total_72 hl (k := 2) rfl jv49_3 rfl (lo := (-59)) (hi := 70) (by decide) (by decide) (lv' := fun v => [(3, .int v), (0, .ref u0), (1, .long v49_1), (4, .int v49_4), (5, .int v49_5)]) (fun _ => rfl) (fun z6 ls ez6 mz6 iz6 hl => ?_)
            refine lv_goto (tgt := 10) hx hb dX2_total_75 (by decide) ?_
            exact ih10 ls f_49 H locs v49_1 z6 (show 70 - z6.toInt < _ by omega) (lv_cons hl 1 rfl (lv_cons hl 2 rfl (lv_cons hl 0 rfl (lv_nil hl)))) h t_49 o_49 (iv_w iz6 (by decide)) k49_u0_3 k49_u0_2 k49_u0_9 k49_u0_10 k49_rq_0 k49_rq_1 k49_rq_2 k49_rq_3 k49_mq_0 k49_mq_1 k49_mq_2 k49_mq_3 (show rl.toInt ≤ z6.toInt by omega)
          · have c3 : v49_5.toInt ≤ v49_4.toInt := Int32.le_iff_toInt_le.mp (iv_nlt c1)
            have i4 : iv v49_5 124 15004 := iv_El c3 iv49_5 iv49_4 (by decide)
            have i5 : iv v49_4 124 15004 := iv_Er c3 iv49_5 iv49_4 (by decide)
            refine lv_lload_n hx hb dX2_total_56 rfl (lv_at hl 1 rfl) ?_
            refine lv_aload_n hx hb dX2_total_57 rfl (lv_at hl 0 rfl) ?_
            refine t_getr (tq := 21) C h t_49 hu0 (by decide) wf_20 rfl fl_X2_11 dX2_total_58 (fun q7 tq7 => ?_)
            refine lv_iload hx hb dX2_total_61 (lv_at hl 4 rfl) ?_
            refine t_lald C h t_49 tq7 (by decide) wf_21 (iv_in i4 (by decide)) dX2_total_63 (fun w8 => ?_)
            refine lv_ladd hx hb dX2_total_64 (lv_topl (fun w9 ew9 => ?_))
            refine lv_lstore_n (lv' := [(1, .long w9), (0, .ref u0), (3, .int v10_3), (4, .int v49_4), (5, .int v49_5)]) hx hb dX2_total_65 rfl hl (by decide) rfl (fun ls hl => ?_)
            refine i_inc hx hb dX2_total_66 hl (k := 4) rfl i4 rfl (lo := 125) (hi := 15005) (by decide) (by decide) (lv' := fun v => [(5, .int v), (1, .long w9), (0, .ref u0), (3, .int v10_3), (4, .int v49_4)]) (fun _ => rfl) (fun z10 ls ez10 mz10 iz10 hl => ?_)
            refine lv_goto (tgt := 49) hx hb dX2_total_69 (by decide) ?_
            exact ih49 ls f_49 H locs w9 v49_4 z10 (show 15020 - z10.toInt < _ by omega) (lv_cons hl 2 rfl (lv_cons hl 1 rfl (lv_cons hl 3 rfl (lv_cons hl 4 rfl (lv_cons hl 0 rfl (lv_nil hl)))))) h t_49 o_49 jv49_3 (iv_w i5 (by decide)) (iv_w iz10 (by decide)) k49_u0_3 k49_u0_2 k49_u0_9 k49_u0_10 k49_rq_0 k49_rq_1 k49_rq_2 k49_rq_3 k49_mq_0 k49_mq_1 k49_mq_2 k49_mq_3
      refine lv_iload_n hx hb dX2_total_10 rfl (lv_at hl 2 rfl) ?_
      refine lv_aload_n hx hb dX2_total_11 rfl (lv_at hl 0 rfl) ?_
      refine t_getfd C h t_10 hu0 (by decide) wf_20 (v := .ref rq) k10_u0_3 fl_X2_25 dX2_total_12 ?_
      refine t_getfd C h t_10 trq (by decide) wf_23 (v := .int rr) k10_rq_2 fl_X2_66 dX2_total_15 ?_
      refine lv_icmp_gt (tgt := 78) hx hb dX2_total_18 (by decide) (fun c11 => ?_) (fun c11 => ?_)
      · have c12 : rr.toInt < v10_3.toInt := Int32.lt_iff_toInt_lt.mp c11
        have i13 : iv v10_3 (-59) 70 := iv_Lr c12 irr iv10_3 (by decide)
        refine lv_lload_n hx hb dX2_total_78 rfl (lv_at hl 1 rfl) ?_
        refine k_i (r_SN C h hl (host := "QuarterWalks") (As := [.long v10_1]) (rest := []) (s_X10_residue l D G b0 τ f_10 t_10 v10_1) mk_X10_residue (by decide) w_741 w_742 ⟨Nat.le_of_ble_eq_true rfl, Nat.le_of_ble_eq_true rfl⟩ rfl (Nat.le_of_ble_eq_true rfl) ⟨Nat.le_of_ble_eq_true rfl, Nat.le_of_ble_eq_true rfl⟩ rfl dX2_total_79) h (fun r16 f17 H locs p18 h => ?_)
        obtain ⟨ir16, tf17, ogf17⟩ := p18
        have egf17 := Fr.nil2 ogf17
        subst egf17
        exact u_iret C h hr hQ (⟨ir16, t_10, o_10⟩) (Nat.le_of_ble_eq_true rfl) (Nat.le_of_ble_eq_true rfl) dX2_total_82
      · have c14 : v10_3.toInt ≤ rr.toInt := Int32.le_iff_toInt_le.mp (iv_nlt c11)
        have i15 : iv v10_3 (-60) 69 := iv_El c14 iv10_3 irr (by decide)
        refine lv_aload_n hx hb dX2_total_21 rfl (lv_at hl 0 rfl) ?_
        refine lv_iload_n hx hb dX2_total_22 rfl (lv_at hl 2 rfl) ?_
        refine lv_aload_n hx hb dX2_total_23 rfl (lv_at hl 0 rfl) ?_
        refine t_getfd C h t_10 hu0 (by decide) wf_20 (v := .ref rq) k10_u0_3 fl_X2_25 dX2_total_24 ?_
        refine t_getfd C h t_10 trq (by decide) wf_23 (v := .int rt) k10_rq_3 fl_X2_69 dX2_total_27 ?_
        obtain ⟨_, r19⟩ := t_rec t_10 hu0 (by decide) wf_20
        refine k_i (r_V C h hl (As := [.int v10_3, .int rt]) (rest := []) (s_X2_cell l D G b0 τ f_10 t_10 u0 hu0 v10_3 (iv_w i15 (by decide)) rt (iv_w irt (by decide)) sx isx k10_u0_9 sy isy k10_u0_10) r19 (Cn := RX2) (T := TX2) (N := 11) rfl rfl mk_X2_cell w_671 w_673 w_12 w_674 ⟨Nat.le_of_ble_eq_true rfl, Nat.le_of_ble_eq_true rfl⟩ rfl (Nat.le_of_ble_eq_true rfl) ⟨Nat.le_of_ble_eq_true rfl, Nat.le_of_ble_eq_true rfl⟩ rfl dX2_total_30) h (fun r20 f21 H locs p22 h => ?_)
        obtain ⟨ir20, tf21, ogf21, x0r20⟩ := p22
        have egf21 := Fr.nil2 ogf21
        subst egf21
        refine lv_istore (lv' := [(4, .int r20), (0, .ref u0), (1, .long v10_1), (3, .int v10_3)]) hx hb dX2_total_33 hl (by decide) rfl (fun ls hl => ?_)
        refine lv_aload_n hx hb dX2_total_35 rfl (lv_at hl 1 rfl) ?_
        refine lv_iload_n hx hb dX2_total_36 rfl (lv_at hl 3 rfl) ?_
        refine lv_aload_n hx hb dX2_total_37 rfl (lv_at hl 1 rfl) ?_
        refine t_getfd C h t_10 hu0 (by decide) wf_20 (v := .ref rq) k10_u0_3 fl_X2_25 dX2_total_38 ?_
        refine t_getfd C h t_10 trq (by decide) wf_23 (v := .int rb) k10_rq_1 fl_X2_63 dX2_total_41 ?_
        obtain ⟨_, r23⟩ := t_rec t_10 hu0 (by decide) wf_20
        refine k_i (r_V C h hl (As := [.int v10_3, .int rb]) (rest := []) (s_X2_cell l D G b0 τ f_10 t_10 u0 hu0 v10_3 (iv_w i15 (by decide)) rb (iv_w irb (by decide)) sx isx k10_u0_9 sy isy k10_u0_10) r23 (Cn := RX2) (T := TX2) (N := 11) rfl rfl mk_X2_cell w_671 w_673 w_12 w_674 ⟨Nat.le_of_ble_eq_true rfl, Nat.le_of_ble_eq_true rfl⟩ rfl (Nat.le_of_ble_eq_true rfl) ⟨Nat.le_of_ble_eq_true rfl, Nat.le_of_ble_eq_true rfl⟩ rfl dX2_total_44) h (fun r24 f25 H locs p26 h => ?_)
        obtain ⟨ir24, tf25, ogf25, x0r24⟩ := p26
        have egf25 := Fr.nil2 ogf25
        subst egf25
        refine lv_istore (lv' := [(5, .int r24), (4, .int r20), (0, .ref u0), (1, .long v10_1), (3, .int v10_3)]) hx hb dX2_total_47 hl (by decide) rfl (fun ls hl => ?_)
        exact L49 15021 ls f_10 H locs v10_1 r20 r24 (show 15020 - r24.toInt < _ by omega) (lv_cons hl 2 rfl (lv_cons hl 3 rfl (lv_cons hl 4 rfl (lv_cons hl 1 rfl (lv_cons hl 0 rfl (lv_nil hl)))))) h t_10 o_10 i15 (show iv r20 (-20000) 15004 from by omega) (show iv r24 124 15020 from by omega) k10_u0_3 k10_u0_2 k10_u0_9 k10_u0_10 k10_rq_0 k10_rq_1 k10_rq_2 k10_rq_3 k10_mq_0 k10_mq_1 k10_mq_2 k10_mq_3
  refine lv_lconst (v := 0) hx hb dX2_total_0 (by decide) ?_
  refine lv_lstore_n (lv' := [(1, .long 0), (0, .ref u0)]) hx hb dX2_total_1 rfl hl (by decide) rfl (fun ls hl => ?_)
  refine lv_aload_n hx hb dX2_total_2 rfl (lv_at hl 1 rfl) ?_
  refine t_getfd C h t hu0 (by decide) wf_20 (v := .ref rq) kg3 fl_X2_25 dX2_total_3 ?_
  refine t_getfd C h t trq (by decide) wf_23 (v := .int rl) krl fl_X2_60 dX2_total_6 ?_
  refine lv_istore_n (lv' := [(3, .int rl), (1, .long 0), (0, .ref u0)]) hx hb dX2_total_9 rfl hl (by decide) rfl (fun ls hl => ?_)
  exact L10 131 ls f s.heap [] 0 rl (show 70 - rl.toInt < _ by omega) (lv_cons hl 2 rfl (lv_cons hl 1 rfl (lv_cons hl 0 rfl (lv_nil hl)))) h t o (iv_w irl (by decide)) kg3 kg2 ksx ksy krl krb krr krt kml kmb kmr kmt (show rl.toInt ≤ rl.toInt by omega)
abbrev rm_s_X2_alongLine : Room := { frames := 2, cells := 0, slots := 0, locals := 44 }
set_option maxRecDepth 100000 in
set_option maxHeartbeats 4000000 in
theorem s_X2_alongLine (l : Launch) (D : va_G) (G : Nat → Nat) (b0 : Nat) (τ : Nat → Nat) (f : hM) (t : TI G 9 τ f) (u0 : Nat) (hu0 : τ u0 = 20) (u1 : Int32) (hu1 : iv u1 0 1) (u2 : Int32) (hu2 : iv u2 0 1) (rq mq : Nat) (hGJ : GJ τ f u0 rq mq) : mI l yX2_alongLine cX2_alongLine 6 (.int) rm_s_X2_alongLine D G b0 f [.ref u0, .int u1, .int u2] (fun r f1 => iv r (-2147483648) 2147483647 ∧ TI G 9 τ f1 ∧ Fr [] τ f f1) := by
  refine met2 (own := RX2) (by decide) rfl (Nat.le_of_ble_eq_true rfl) ?_
  intro p e s m args below meth c ls Q hQ C hr hini hl h
  have hl : lv_has ls 6 [(0, .ref u0), (1, .int u1), (2, .int u2)] := hl
  obtain ⟨hx, hb, hml, hown, hts, hE0, hlk⟩ := id C
  have o := Fr.rf [] τ f
  obtain ⟨sx, sy, rl, rb, rr, rt, ml, mb, mr, mt, ⟨trq, tmq⟩, ⟨kg3, kg2, ksx, ksy⟩, ⟨krl, krb, krr, krt⟩, ⟨kml, kmb, kmr, kmt⟩, ⟨isx, isy, irl, irb, irr, irt, iml, imb, imr, imt⟩, ⟨gr1, gr2, gr3, gr4⟩, ⟨gr5, gr6, gr7, gr8⟩⟩ := hGJ
  have L5 : ∀ (n5 : Nat) (ls : Array Slot) (f_5 : hM) (H : Heap) (locs : List Loc) (v5_3 : Int64) (v5_5 : Int32), 70 - v5_5.toInt < (n5 : Int) → lv_has ls 6 [(0, .ref u0), (1, .int u1), (2, .int u2), (3, .long v5_3), (5, .int v5_5)] → hw D b0 s.heap f_5 H locs → TI G 9 τ f_5 → Fr [] τ f f_5 → iv v5_5 0 70 → atp f_5 u0 (fd 3 (.ref rq)) → atp f_5 u0 (fd 2 (.ref mq)) → atp f_5 u0 (fd 9 (.int sx)) → atp f_5 u0 (fd 10 (.int sy)) → atp f_5 rq (fd 0 (.int rl)) → atp f_5 rq (fd 1 (.int rb)) → atp f_5 rq (fd 2 (.int rr)) → atp f_5 rq (fd 3 (.int rt)) → atp f_5 mq (fd 0 (.int ml)) → atp f_5 mq (fd 1 (.int mb)) → atp f_5 mq (fd 2 (.int mr)) → atp f_5 mq (fd 3 (.int mt)) → W p l e rm_s_X2_alongLine s m args below meth c H locs 0 0 Q (F0 m 5 ls []) := by
    intro n5
    induction n5 with
    | zero => intro ls f_5 H locs v5_3 v5_5 hm5 hl h t_5 o_5 iv5_5 k5_u0_3 k5_u0_2 k5_u0_9 k5_u0_10 k5_rq_0 k5_rq_1 k5_rq_2 k5_rq_3 k5_mq_0 k5_mq_1 k5_mq_2 k5_mq_3; exact absurd hm5 (by omega)
    | succ n5 ih5 =>
      intro ls f_5 H locs v5_3 v5_5 hm5 hl h t_5 o_5 iv5_5 k5_u0_3 k5_u0_2 k5_u0_9 k5_u0_10 k5_rq_0 k5_rq_1 k5_rq_2 k5_rq_3 k5_mq_0 k5_mq_1 k5_mq_2 k5_mq_3
      refine lv_iload hx hb dX2_alongLine_5 (lv_at hl 4 rfl) ?_
      refine lv_bipush (v := 70) hx hb dX2_alongLine_7 (by decide) ?_
      refine lv_icmp_ge (tgt := 33) hx hb dX2_alongLine_9 (by decide) (fun c1 => ?_) (fun c1 => ?_)
      · have c2 : 70 ≤ v5_5.toInt := Int32.le_iff_toInt_le.mp c1
        have i3 : iv v5_5 70 70 := iv_Er c2 (iv_k (x := 70) (k := 70) rfl) iv5_5 (by decide)
        refine lv_lload_n hx hb dX2_alongLine_33 rfl (lv_at hl 3 rfl) ?_
        refine k_i (r_SN C h hl (host := "QuarterWalks") (As := [.long v5_3]) (rest := []) (s_X10_residue l D G b0 τ f_5 t_5 v5_3) mk_X10_residue (by decide) w_741 w_742 ⟨Nat.le_of_ble_eq_true rfl, Nat.le_of_ble_eq_true rfl⟩ rfl (Nat.le_of_ble_eq_true rfl) ⟨Nat.le_of_ble_eq_true rfl, Nat.le_of_ble_eq_true rfl⟩ rfl dX2_alongLine_34) h (fun r6 f7 H locs p8 h => ?_)
        obtain ⟨ir6, tf7, ogf7⟩ := p8
        have egf7 := Fr.nil2 ogf7
        subst egf7
        exact u_iret C h hr hQ (⟨ir6, t_5, o_5⟩) (Nat.le_of_ble_eq_true rfl) (Nat.le_of_ble_eq_true rfl) dX2_alongLine_37
      · have c4 : v5_5.toInt < 70 := Int32.lt_iff_toInt_lt.mp (iv_nle c1)
        have i5 : iv v5_5 0 69 := iv_Ll c4 iv5_5 (iv_k (x := 70) (k := 70) rfl) (by decide)
        refine lv_lload_n hx hb dX2_alongLine_12 rfl (lv_at hl 3 rfl) ?_
        refine lv_aload_n hx hb dX2_alongLine_13 rfl (lv_at hl 0 rfl) ?_
        refine lv_iload hx hb dX2_alongLine_14 (lv_at hl 4 rfl) ?_
        refine lv_iload_n hx hb dX2_alongLine_16 rfl (lv_at hl 1 rfl) ?_
        refine i_mulp hx hb dX2_alongLine_17 i5 hu1 (lo := 0) (hi := 69) (by decide) (fun z9 ez9 iz9 => ?_)
        refine lv_iload hx hb dX2_alongLine_18 (lv_at hl 4 rfl) ?_
        refine lv_iload_n hx hb dX2_alongLine_20 rfl (lv_at hl 2 rfl) ?_
        refine i_mulp hx hb dX2_alongLine_21 i5 hu2 (lo := 0) (hi := 69) (by decide) (fun z10 ez10 iz10 => ?_)
        have gj11 : GJ τ f_5 u0 rq mq := ⟨sx, sy, rl, rb, rr, rt, ml, mb, mr, mt, ⟨trq, tmq⟩, ⟨k5_u0_3, k5_u0_2, k5_u0_9, k5_u0_10⟩, ⟨k5_rq_0, k5_rq_1, k5_rq_2, k5_rq_3⟩, ⟨k5_mq_0, k5_mq_1, k5_mq_2, k5_mq_3⟩, ⟨isx, isy, irl, irb, irr, irt, iml, imb, imr, imt⟩, ⟨by omega, by omega, by omega, by omega⟩, ⟨by omega, by omega, by omega, by omega⟩⟩
        obtain ⟨_, r12⟩ := t_rec t_5 hu0 (by decide) wf_20
        refine k_l (r_V C h hl (As := [.int z9, .int z10]) (rest := [.long v5_3]) (s_X2_seen l D G b0 τ f_5 t_5 u0 hu0 z9 (iv_w iz9 (by decide)) z10 (iv_w iz10 (by decide)) rq mq gj11) r12 (Cn := RX2) (T := TX2) (N := 11) rfl rfl mk_X2_seen w_744 w_710 w_711 w_712 ⟨Nat.le_of_ble_eq_true rfl, Nat.le_of_ble_eq_true rfl⟩ rfl (Nat.le_of_ble_eq_true rfl) ⟨Nat.le_of_ble_eq_true rfl, Nat.le_of_ble_eq_true rfl⟩ rfl dX2_alongLine_22) h (fun r13 f14 H locs p15 h => ?_)
        obtain ⟨tf14, ogf14⟩ := p15
        have egf14 := Fr.nil2 ogf14
        subst egf14
        refine lv_ladd hx hb dX2_alongLine_25 (lv_topl (fun w16 ew16 => ?_))
        refine lv_lstore_n (lv' := [(3, .long w16), (0, .ref u0), (1, .int u1), (2, .int u2), (5, .int v5_5)]) hx hb dX2_alongLine_26 rfl hl (by decide) rfl (fun ls hl => ?_)
        refine i_inc hx hb dX2_alongLine_27 hl (k := 4) rfl i5 rfl (lo := 1) (hi := 70) (by decide) (by decide) (lv' := fun v => [(5, .int v), (3, .long w16), (0, .ref u0), (1, .int u1), (2, .int u2)]) (fun _ => rfl) (fun z17 ls ez17 mz17 iz17 hl => ?_)
        refine lv_goto (tgt := 5) hx hb dX2_alongLine_30 (by decide) ?_
        exact ih5 ls f_5 H locs w16 z17 (show 70 - z17.toInt < _ by omega) (lv_cons hl 2 rfl (lv_cons hl 3 rfl (lv_cons hl 4 rfl (lv_cons hl 1 rfl (lv_cons hl 0 rfl (lv_nil hl)))))) h t_5 o_5 (iv_w iz17 (by decide)) k5_u0_3 k5_u0_2 k5_u0_9 k5_u0_10 k5_rq_0 k5_rq_1 k5_rq_2 k5_rq_3 k5_mq_0 k5_mq_1 k5_mq_2 k5_mq_3
  refine lv_lconst (v := 0) hx hb dX2_alongLine_0 (by decide) ?_
  refine lv_lstore_n (lv' := [(3, .long 0), (0, .ref u0), (1, .int u1), (2, .int u2)]) hx hb dX2_alongLine_1 rfl hl (by decide) rfl (fun ls hl => ?_)
  refine lv_iconst (v := 0) hx hb dX2_alongLine_2 (by decide) ?_
  refine lv_istore (lv' := [(5, .int 0), (3, .long 0), (0, .ref u0), (1, .int u1), (2, .int u2)]) hx hb dX2_alongLine_3 hl (by decide) rfl (fun ls hl => ?_)
  exact L5 71 ls f s.heap [] 0 0 (by decide) (lv_cons hl 2 rfl (lv_cons hl 3 rfl (lv_cons hl 4 rfl (lv_cons hl 1 rfl (lv_cons hl 0 rfl (lv_nil hl)))))) h t o ⟨by decide, by decide⟩ kg3 kg2 ksx ksy krl krb krr krt kml kmb kmr kmt
abbrev rm_s_X2_weightOut : Room := { frames := 0, cells := 0, slots := 0, locals := 0 }
set_option maxRecDepth 100000 in
set_option maxHeartbeats 4000000 in
theorem s_X2_weightOut (l : Launch) (D : va_G) (G : Nat → Nat) (b0 : Nat) (τ : Nat → Nat) (f : hM) (t : TI G 9 τ f) (u0 : Nat) (hu0 : τ u0 = 20) (u1 : Nat) (hu1 : τ u1 = 1) (u2 : Int32) (hu2 : iv u2 (-2147483648) 2147483647) (u3 : Int32) (hu3 : iv u3 (-2147483648) 2147483647) : mI l yX2_weightOut cX2_weightOut 6 (.int) rm_s_X2_weightOut D G b0 f [.ref u0, .ref u1, .int u2, .int u3] (fun r f1 => iv r (-2147483648) 2147483647 ∧ TI G 9 τ f1 ∧ Fr [] τ f f1) := by
  refine met2 (own := RX2) (by decide) rfl (Nat.le_of_ble_eq_true rfl) ?_
  intro p e s m args below meth c ls Q hQ C hr hini hl h
  have hl : lv_has ls 6 [(0, .ref u0), (1, .ref u1), (2, .int u2), (3, .int u3)] := hl
  obtain ⟨hx, hb, hml, hown, hts, hE0, hlk⟩ := id C
  have o := Fr.rf [] τ f
  have L6 : ∀ (n6 : Nat) (ls : Array Slot) (f_6 : hM) (H : Heap) (locs : List Loc) (v6_4 : Int32) (v6_5 : Int32), 8 - v6_5.toInt < (n6 : Int) → lv_has ls 6 [(1, .ref u1), (2, .int u2), (3, .int u3), (4, .int v6_4), (5, .int v6_5)] → hw D b0 s.heap f_6 H locs → TI G 9 τ f_6 → Fr [] τ f f_6 → iv v6_4 (-2147483648) 2147483647 → iv v6_5 0 8 → W p l e rm_s_X2_weightOut s m args below meth c H locs 0 0 Q (F0 m 6 ls []) := by
    intro n6
    induction n6 with
    | zero => intro ls f_6 H locs v6_4 v6_5 hm6 hl h t_6 o_6 iv6_4 iv6_5; exact absurd hm6 (by omega)
    | succ n6 ih6 =>
      intro ls f_6 H locs v6_4 v6_5 hm6 hl h t_6 o_6 iv6_4 iv6_5
      refine lv_iload hx hb dX2_weightOut_6 (lv_at hl 4 rfl) ?_
      refine lv_bipush (v := 8) hx hb dX2_weightOut_8 (by decide) ?_
      refine lv_icmp_ge (tgt := 53) hx hb dX2_weightOut_10 (by decide) (fun c1 => ?_) (fun c1 => ?_)
      · have c2 : 8 ≤ v6_5.toInt := Int32.le_iff_toInt_le.mp c1
        have i3 : iv v6_5 8 8 := iv_Er c2 (iv_k (x := 8) (k := 8) rfl) iv6_5 (by decide)
        refine lv_iload hx hb dX2_weightOut_53 (lv_at hl 3 rfl) ?_
        exact u_iret C h hr hQ (⟨iv6_4, t_6, o_6⟩) (Nat.le_of_ble_eq_true rfl) (Nat.le_of_ble_eq_true rfl) dX2_weightOut_55
      · have c4 : v6_5.toInt < 8 := Int32.lt_iff_toInt_lt.mp (iv_nle c1)
        have i5 : iv v6_5 0 7 := iv_Ll c4 iv6_5 (iv_k (x := 8) (k := 8) rfl) (by decide)
        refine lv_iload_n hx hb dX2_weightOut_13 rfl (lv_at hl 1 rfl) ?_
        refine st_getN C h (i := 0) (by decide) (by decide) dX2_weightOut_14 ?_
        refine lv_iload hx hb dX2_weightOut_17 (lv_at hl 4 rfl) ?_
        refine st_ald C h (k := 0) (by decide) st_b0 (iv_in i5 (by decide)) dX2_weightOut_19 (fun z6 ez6 iz6 => ?_)
        refine lv_iadd hx hb dX2_weightOut_20 (i_top (iv_any _) (fun z7 ez7 iz7 => ?_))
        refine lv_if_lt (tgt := 35) hx hb dX2_weightOut_21 (by decide) (fun c8 => ?_) (fun c8 => ?_)
        · have c9 : z7.toInt < 0 := Int32.lt_iff_toInt_lt.mp c8
          have i10 : iv z7 (-2147483648) (-1) := iv_Ll c9 iz7 (iv_k (x := 0) (k := 0) rfl) (by decide)
          refine lv_iload hx hb dX2_weightOut_35 (lv_at hl 3 rfl) ?_
          refine lv_aload_n hx hb dX2_weightOut_37 rfl (lv_at hl 0 rfl) ?_
          refine t_getr (tq := 2) C h t_6 hu1 (by decide) wf_1 rfl fl_X2_94 dX2_weightOut_38 (fun q13 tq13 => ?_)
          refine lv_iload hx hb dX2_weightOut_41 (lv_at hl 4 rfl) ?_
          refine t_iald C h t_6 tq13 (by decide) wf_2 (iv_in i5 (by decide)) dX2_weightOut_43 (fun z14 iz14 => ?_)
          refine lv_iadd hx hb dX2_weightOut_44 (i_top (iv_any _) (fun z15 ez15 iz15 => ?_))
          refine lv_istore (lv' := [(4, .int z15), (1, .ref u1), (2, .int u2), (3, .int u3), (5, .int v6_5)]) hx hb dX2_weightOut_45 hl (by decide) rfl (fun ls hl => ?_)
          refine i_inc hx hb dX2_weightOut_47 hl (k := 4) rfl i5 rfl (lo := 1) (hi := 8) (by decide) (by decide) (lv' := fun v => [(5, .int v), (4, .int z15), (1, .ref u1), (2, .int u2), (3, .int u3)]) (fun _ => rfl) (fun z16 ls ez16 mz16 iz16 hl => ?_)
          refine lv_goto (tgt := 6) hx hb dX2_weightOut_50 (by decide) ?_
          exact ih6 ls f_6 H locs z15 z16 (show 8 - z16.toInt < _ by omega) (lv_cons hl 2 rfl (lv_cons hl 3 rfl (lv_cons hl 4 rfl (lv_cons hl 1 rfl (lv_cons hl 0 rfl (lv_nil hl)))))) h t_6 o_6 iz15 (iv_w iz16 (by decide))
        · have c11 : 0 ≤ z7.toInt := Int32.le_iff_toInt_le.mp (iv_nlt c8)
          have i12 : iv z7 0 2147483647 := iv_Er c11 (iv_k (x := 0) (k := 0) rfl) iz7 (by decide)
          refine lv_iload_n hx hb dX2_weightOut_24 rfl (lv_at hl 2 rfl) ?_
          refine st_getN C h (i := 1) (by decide) (by decide) dX2_weightOut_25 ?_
          refine lv_iload hx hb dX2_weightOut_28 (lv_at hl 4 rfl) ?_
          refine st_ald C h (k := 1) (by decide) st_b1 (iv_in i5 (by decide)) dX2_weightOut_30 (fun z17 ez17 iz17 => ?_)
          refine lv_iadd hx hb dX2_weightOut_31 (i_top (iv_any _) (fun z18 ez18 iz18 => ?_))
          refine lv_if_ge (tgt := 47) hx hb dX2_weightOut_32 (by decide) (fun c19 => ?_) (fun c19 => ?_)
          · have c20 : 0 ≤ z18.toInt := Int32.le_iff_toInt_le.mp c19
            have i21 : iv z18 0 2147483647 := iv_Er c20 (iv_k (x := 0) (k := 0) rfl) iz18 (by decide)
            refine i_inc hx hb dX2_weightOut_47 hl (k := 4) rfl i5 rfl (lo := 1) (hi := 8) (by decide) (by decide) (lv' := fun v => [(5, .int v), (1, .ref u1), (2, .int u2), (3, .int u3), (4, .int v6_4)]) (fun _ => rfl) (fun z24 ls ez24 mz24 iz24 hl => ?_)
            refine lv_goto (tgt := 6) hx hb dX2_weightOut_50 (by decide) ?_
            exact ih6 ls f_6 H locs v6_4 z24 (show 8 - z24.toInt < _ by omega) (lv_cons hl 1 rfl (lv_cons hl 2 rfl (lv_cons hl 3 rfl (lv_cons hl 4 rfl (lv_cons hl 0 rfl (lv_nil hl)))))) h t_6 o_6 iv6_4 (iv_w iz24 (by decide))
          · have c22 : z18.toInt < 0 := Int32.lt_iff_toInt_lt.mp (iv_nle c19)
            have i23 : iv z18 (-2147483648) (-1) := iv_Ll c22 iz18 (iv_k (x := 0) (k := 0) rfl) (by decide)
            refine lv_iload hx hb dX2_weightOut_35 (lv_at hl 3 rfl) ?_
            refine lv_aload_n hx hb dX2_weightOut_37 rfl (lv_at hl 0 rfl) ?_
            refine t_getr (tq := 2) C h t_6 hu1 (by decide) wf_1 rfl fl_X2_94 dX2_weightOut_38 (fun q25 tq25 => ?_)
            refine lv_iload hx hb dX2_weightOut_41 (lv_at hl 4 rfl) ?_
            refine t_iald C h t_6 tq25 (by decide) wf_2 (iv_in i5 (by decide)) dX2_weightOut_43 (fun z26 iz26 => ?_)
            refine lv_iadd hx hb dX2_weightOut_44 (i_top (iv_any _) (fun z27 ez27 iz27 => ?_))
            refine lv_istore (lv' := [(4, .int z27), (1, .ref u1), (2, .int u2), (3, .int u3), (5, .int v6_5)]) hx hb dX2_weightOut_45 hl (by decide) rfl (fun ls hl => ?_)
            refine i_inc hx hb dX2_weightOut_47 hl (k := 4) rfl i5 rfl (lo := 1) (hi := 8) (by decide) (by decide) (lv' := fun v => [(5, .int v), (4, .int z27), (1, .ref u1), (2, .int u2), (3, .int u3)]) (fun _ => rfl) (fun z28 ls ez28 mz28 iz28 hl => ?_)
            refine lv_goto (tgt := 6) hx hb dX2_weightOut_50 (by decide) ?_
            exact ih6 ls f_6 H locs z27 z28 (show 8 - z28.toInt < _ by omega) (lv_cons hl 2 rfl (lv_cons hl 3 rfl (lv_cons hl 4 rfl (lv_cons hl 1 rfl (lv_cons hl 0 rfl (lv_nil hl)))))) h t_6 o_6 iz27 (iv_w iz28 (by decide))
  refine lv_iconst (v := 0) hx hb dX2_weightOut_0 (by decide) ?_
  refine lv_istore (lv' := [(4, .int 0), (0, .ref u0), (1, .ref u1), (2, .int u2), (3, .int u3)]) hx hb dX2_weightOut_1 hl (by decide) rfl (fun ls hl => ?_)
  refine lv_iconst (v := 0) hx hb dX2_weightOut_3 (by decide) ?_
  refine lv_istore (lv' := [(5, .int 0), (4, .int 0), (0, .ref u0), (1, .ref u1), (2, .int u2), (3, .int u3)]) hx hb dX2_weightOut_4 hl (by decide) rfl (fun ls hl => ?_)
  exact L6 9 ls f s.heap [] 0 0 (by decide) (lv_cons hl 3 rfl (lv_cons hl 4 rfl (lv_cons hl 5 rfl (lv_cons hl 1 rfl (lv_cons hl 0 rfl (lv_nil hl)))))) h t o ⟨by decide, by decide⟩ ⟨by decide, by decide⟩
abbrev rm_s_X2_leaving : Room := { frames := 2, cells := 0, slots := 0, locals := 44 }
set_option maxRecDepth 100000 in
set_option maxHeartbeats 4000000 in
theorem s_X2_leaving (l : Launch) (D : va_G) (G : Nat → Nat) (b0 : Nat) (τ : Nat → Nat) (f : hM) (t : TI G 9 τ f) (u0 : Nat) (hu0 : τ u0 = 20) (u1 : Nat) (hu1 : τ u1 = 1) (rq mq : Nat) (hGJ : GJ τ f u0 rq mq) : mI l yX2_leaving cX2_leaving 6 (.int) rm_s_X2_leaving D G b0 f [.ref u0, .ref u1] (fun r f1 => iv r (-2147483648) 2147483647 ∧ TI G 9 τ f1 ∧ Fr [] τ f f1) := by
  refine met2 (own := RX2) (by decide) rfl (Nat.le_of_ble_eq_true rfl) ?_
  intro p e s m args below meth c ls Q hQ C hr hini hl h
  have hl : lv_has ls 6 [(0, .ref u0), (1, .ref u1)] := hl
  obtain ⟨hx, hb, hml, hown, hts, hE0, hlk⟩ := id C
  have o := Fr.rf [] τ f
  obtain ⟨sx, sy, rl, rb, rr, rt, ml, mb, mr, mt, ⟨trq, tmq⟩, ⟨kg3, kg2, ksx, ksy⟩, ⟨krl, krb, krr, krt⟩, ⟨kml, kmb, kmr, kmt⟩, ⟨isx, isy, irl, irb, irr, irt, iml, imb, imr, imt⟩, ⟨gr1, gr2, gr3, gr4⟩, ⟨gr5, gr6, gr7, gr8⟩⟩ := hGJ
  have L11 : ∀ (n11 : Nat) (ls : Array Slot) (f_11 : hM) (H : Heap) (locs : List Loc) (v11_2 : Int64) (v11_4 : Int32), 70 - v11_4.toInt < (n11 : Int) → lv_has ls 6 [(0, .ref u0), (1, .ref u1), (2, .long v11_2), (4, .int v11_4)] → hw D b0 s.heap f_11 H locs → TI G 9 τ f_11 → Fr [] τ f f_11 → iv v11_4 (-60) 70 → atp f_11 u0 (fd 3 (.ref rq)) → atp f_11 u0 (fd 2 (.ref mq)) → atp f_11 u0 (fd 9 (.int sx)) → atp f_11 u0 (fd 10 (.int sy)) → atp f_11 rq (fd 0 (.int rl)) → atp f_11 rq (fd 1 (.int rb)) → atp f_11 rq (fd 2 (.int rr)) → atp f_11 rq (fd 3 (.int rt)) → atp f_11 mq (fd 0 (.int ml)) → atp f_11 mq (fd 1 (.int mb)) → atp f_11 mq (fd 2 (.int mr)) → atp f_11 mq (fd 3 (.int mt)) → W p l e rm_s_X2_leaving s m args below meth c H locs 0 0 Q (F0 m 11 ls []) := by
    intro n11
    induction n11 with
    | zero => intro ls f_11 H locs v11_2 v11_4 hm11 hl h t_11 o_11 iv11_4 k11_u0_3 k11_u0_2 k11_u0_9 k11_u0_10 k11_rq_0 k11_rq_1 k11_rq_2 k11_rq_3 k11_mq_0 k11_mq_1 k11_mq_2 k11_mq_3; exact absurd hm11 (by omega)
    | succ n11 ih11 =>
      intro ls f_11 H locs v11_2 v11_4 hm11 hl h t_11 o_11 iv11_4 k11_u0_3 k11_u0_2 k11_u0_9 k11_u0_10 k11_rq_0 k11_rq_1 k11_rq_2 k11_rq_3 k11_mq_0 k11_mq_1 k11_mq_2 k11_mq_3
      have L32 : ∀ (n32 : Nat) (ls : Array Slot) (f_32 : hM) (H : Heap) (locs : List Loc) (v32_2 : Int64) (v32_5 : Int32), 70 - v32_5.toInt < (n32 : Int) → lv_has ls 6 [(0, .ref u0), (1, .ref u1), (2, .long v32_2), (4, .int v11_4), (5, .int v32_5)] → hw D b0 s.heap f_32 H locs → TI G 9 τ f_32 → Fr [] τ f f_32 → iv v11_4 (-60) 69 → iv v32_5 (-60) 70 → atp f_32 u0 (fd 3 (.ref rq)) → atp f_32 u0 (fd 2 (.ref mq)) → atp f_32 u0 (fd 9 (.int sx)) → atp f_32 u0 (fd 10 (.int sy)) → atp f_32 rq (fd 0 (.int rl)) → atp f_32 rq (fd 1 (.int rb)) → atp f_32 rq (fd 2 (.int rr)) → atp f_32 rq (fd 3 (.int rt)) → atp f_32 mq (fd 0 (.int ml)) → atp f_32 mq (fd 1 (.int mb)) → atp f_32 mq (fd 2 (.int mr)) → atp f_32 mq (fd 3 (.int mt)) → W p l e rm_s_X2_leaving s m args below meth c H locs 0 0 Q (F0 m 32 ls []) := by
        intro n32
        induction n32 with
        | zero => intro ls f_32 H locs v32_2 v32_5 hm32 hl h t_32 o_32 jv32_4 iv32_5 k32_u0_3 k32_u0_2 k32_u0_9 k32_u0_10 k32_rq_0 k32_rq_1 k32_rq_2 k32_rq_3 k32_mq_0 k32_mq_1 k32_mq_2 k32_mq_3; exact absurd hm32 (by omega)
        | succ n32 ih32 =>
          intro ls f_32 H locs v32_2 v32_5 hm32 hl h t_32 o_32 jv32_4 iv32_5 k32_u0_3 k32_u0_2 k32_u0_9 k32_u0_10 k32_rq_0 k32_rq_1 k32_rq_2 k32_rq_3 k32_mq_0 k32_mq_1 k32_mq_2 k32_mq_3
          refine lv_iload hx hb dX2_leaving_32 (lv_at hl 4 rfl) ?_
          refine lv_aload_n hx hb dX2_leaving_34 rfl (lv_at hl 0 rfl) ?_
          refine t_getfd C h t_32 hu0 (by decide) wf_20 (v := .ref rq) k32_u0_3 fl_X2_25 dX2_leaving_35 ?_
          refine t_getfd C h t_32 trq (by decide) wf_23 (v := .int rt) k32_rq_3 fl_X2_69 dX2_leaving_38 ?_
          refine lv_icmp_gt (tgt := 82) hx hb dX2_leaving_41 (by decide) (fun c1 => ?_) (fun c1 => ?_)
          · have c2 : rt.toInt < v32_5.toInt := Int32.lt_iff_toInt_lt.mp c1
            have i3 : iv v32_5 (-59) 70 := iv_Lr c2 irt iv32_5 (by decide)
            refine i_inc hx hb dX2_leaving_82 hl (k := 3) rfl jv32_4 rfl (lo := (-59)) (hi := 70) (by decide) (by decide) (lv' := fun v => [(4, .int v), (0, .ref u0), (1, .ref u1), (2, .long v32_2), (5, .int v32_5)]) (fun _ => rfl) (fun z6 ls ez6 mz6 iz6 hl => ?_)
            refine lv_goto (tgt := 11) hx hb dX2_leaving_85 (by decide) ?_
            exact ih11 ls f_32 H locs v32_2 z6 (show 70 - z6.toInt < _ by omega) (lv_cons hl 1 rfl (lv_cons hl 2 rfl (lv_cons hl 3 rfl (lv_cons hl 0 rfl (lv_nil hl))))) h t_32 o_32 (iv_w iz6 (by decide)) k32_u0_3 k32_u0_2 k32_u0_9 k32_u0_10 k32_rq_0 k32_rq_1 k32_rq_2 k32_rq_3 k32_mq_0 k32_mq_1 k32_mq_2 k32_mq_3
          · have c4 : v32_5.toInt ≤ rt.toInt := Int32.le_iff_toInt_le.mp (iv_nlt c1)
            have i5 : iv v32_5 (-60) 69 := iv_El c4 iv32_5 irt (by decide)
            refine lv_iload hx hb dX2_leaving_44 (lv_at hl 3 rfl) ?_
            refine lv_if_eq (tgt := 54) hx hb dX2_leaving_46 (by decide) (fun c7 => ?_) (fun c7 => ?_)
            · have c8 : v11_4.toInt = 0 := congrArg Int32.toInt c7
              have i9 : iv v11_4 0 0 := iv_Q c8 jv32_4 (iv_k (x := 0) (k := 0) rfl) (by decide)
              refine lv_lload_n hx hb dX2_leaving_54 rfl (lv_at hl 2 rfl) ?_
              refine lv_aload_n hx hb dX2_leaving_55 rfl (lv_at hl 0 rfl) ?_
              refine lv_iload hx hb dX2_leaving_56 (lv_at hl 3 rfl) ?_
              refine lv_iload hx hb dX2_leaving_58 (lv_at hl 4 rfl) ?_
              have gj11 : GJ τ f_32 u0 rq mq := ⟨sx, sy, rl, rb, rr, rt, ml, mb, mr, mt, ⟨trq, tmq⟩, ⟨k32_u0_3, k32_u0_2, k32_u0_9, k32_u0_10⟩, ⟨k32_rq_0, k32_rq_1, k32_rq_2, k32_rq_3⟩, ⟨k32_mq_0, k32_mq_1, k32_mq_2, k32_mq_3⟩, ⟨isx, isy, irl, irb, irr, irt, iml, imb, imr, imt⟩, ⟨by omega, by omega, by omega, by omega⟩, ⟨by omega, by omega, by omega, by omega⟩⟩
              obtain ⟨_, r12⟩ := t_rec t_32 hu0 (by decide) wf_20
              refine k_l (r_V C h hl (As := [.int v11_4, .int v32_5]) (rest := [.long v32_2]) (s_X2_seen l D G b0 τ f_32 t_32 u0 hu0 v11_4 (iv_w i9 (by decide)) v32_5 (iv_w i5 (by decide)) rq mq gj11) r12 (Cn := RX2) (T := TX2) (N := 11) rfl rfl mk_X2_seen w_744 w_710 w_711 w_712 ⟨Nat.le_of_ble_eq_true rfl, Nat.le_of_ble_eq_true rfl⟩ rfl (Nat.le_of_ble_eq_true rfl) ⟨Nat.le_of_ble_eq_true rfl, Nat.le_of_ble_eq_true rfl⟩ rfl dX2_leaving_60) h (fun r13 f14 H locs p15 h => ?_)
              obtain ⟨tf14, ogf14⟩ := p15
              have egf14 := Fr.nil2 ogf14
              subst egf14
              refine lv_aload_n hx hb dX2_leaving_63 rfl (lv_at hl 0 rfl) ?_
              refine lv_aload_n hx hb dX2_leaving_64 rfl (lv_at hl 1 rfl) ?_
              refine lv_iload hx hb dX2_leaving_65 (lv_at hl 3 rfl) ?_
              refine lv_iload hx hb dX2_leaving_67 (lv_at hl 4 rfl) ?_
              obtain ⟨_, r16⟩ := t_rec t_32 hu0 (by decide) wf_20
              refine k_i (r_V C h hl (As := [.ref u1, .int v11_4, .int v32_5]) (rest := [.long r13, .long v32_2]) (s_X2_weightOut l D G b0 τ f_32 t_32 u0 hu0 u1 hu1 v11_4 (iv_w i9 (by decide)) v32_5 (iv_w i5 (by decide))) r16 (Cn := RX2) (T := TX2) (N := 11) rfl rfl mk_X2_weightOut w_843 w_845 w_22 w_846 ⟨Nat.le_of_ble_eq_true rfl, Nat.le_of_ble_eq_true rfl⟩ rfl (Nat.le_of_ble_eq_true rfl) ⟨Nat.le_of_ble_eq_true rfl, Nat.le_of_ble_eq_true rfl⟩ rfl dX2_leaving_69) h (fun r17 f18 H locs p19 h => ?_)
              obtain ⟨ir17, tf18, ogf18⟩ := p19
              have egf18 := Fr.nil2 ogf18
              subst egf18
              refine lv_i2l hx hb dX2_leaving_72 rfl (i_topL ir17 (fun w20 ew20 mw20 iw20 => ?_))
              refine lv_lmul hx hb dX2_leaving_73 (lv_topl (fun w21 ew21 => ?_))
              refine lv_ladd hx hb dX2_leaving_74 (lv_topl (fun w22 ew22 => ?_))
              refine lv_lstore_n (lv' := [(2, .long w22), (0, .ref u0), (1, .ref u1), (4, .int v11_4), (5, .int v32_5)]) hx hb dX2_leaving_75 rfl hl (by decide) rfl (fun ls hl => ?_)
              refine i_inc hx hb dX2_leaving_76 hl (k := 4) rfl i5 rfl (lo := (-59)) (hi := 70) (by decide) (by decide) (lv' := fun v => [(5, .int v), (2, .long w22), (0, .ref u0), (1, .ref u1), (4, .int v11_4)]) (fun _ => rfl) (fun z23 ls ez23 mz23 iz23 hl => ?_)
              refine lv_goto (tgt := 32) hx hb dX2_leaving_79 (by decide) ?_
              exact ih32 ls f_32 H locs w22 z23 (show 70 - z23.toInt < _ by omega) (lv_cons hl 2 rfl (lv_cons hl 3 rfl (lv_cons hl 1 rfl (lv_cons hl 4 rfl (lv_cons hl 0 rfl (lv_nil hl)))))) h t_32 o_32 (iv_w i9 (by decide)) (iv_w iz23 (by decide)) k32_u0_3 k32_u0_2 k32_u0_9 k32_u0_10 k32_rq_0 k32_rq_1 k32_rq_2 k32_rq_3 k32_mq_0 k32_mq_1 k32_mq_2 k32_mq_3
            · have c10 : v11_4.toInt ≠ 0 := fun z_ => c7 (Int32.toInt_inj.mp z_)
              refine lv_iload hx hb dX2_leaving_49 (lv_at hl 4 rfl) ?_
              refine lv_if_ne (tgt := 76) hx hb dX2_leaving_51 (by decide) (fun c24 => ?_) (fun c24 => ?_)
              · have c25 : v32_5.toInt ≠ 0 := fun z_ => c24 (Int32.toInt_inj.mp z_)
                refine i_inc hx hb dX2_leaving_76 hl (k := 4) rfl i5 rfl (lo := (-59)) (hi := 70) (by decide) (by decide) (lv' := fun v => [(5, .int v), (0, .ref u0), (1, .ref u1), (2, .long v32_2), (4, .int v11_4)]) (fun _ => rfl) (fun z28 ls ez28 mz28 iz28 hl => ?_)
                refine lv_goto (tgt := 32) hx hb dX2_leaving_79 (by decide) ?_
                exact ih32 ls f_32 H locs v32_2 z28 (show 70 - z28.toInt < _ by omega) (lv_cons hl 1 rfl (lv_cons hl 2 rfl (lv_cons hl 3 rfl (lv_cons hl 4 rfl (lv_cons hl 0 rfl (lv_nil hl)))))) h t_32 o_32 jv32_4 (iv_w iz28 (by decide)) k32_u0_3 k32_u0_2 k32_u0_9 k32_u0_10 k32_rq_0 k32_rq_1 k32_rq_2 k32_rq_3 k32_mq_0 k32_mq_1 k32_mq_2 k32_mq_3
              · have c26 : v32_5.toInt = 0 := congrArg Int32.toInt c24
                have i27 : iv v32_5 0 0 := iv_Q c26 i5 (iv_k (x := 0) (k := 0) rfl) (by decide)
                refine lv_lload_n hx hb dX2_leaving_54 rfl (lv_at hl 2 rfl) ?_
                refine lv_aload_n hx hb dX2_leaving_55 rfl (lv_at hl 0 rfl) ?_
                refine lv_iload hx hb dX2_leaving_56 (lv_at hl 3 rfl) ?_
                refine lv_iload hx hb dX2_leaving_58 (lv_at hl 4 rfl) ?_
                have gj29 : GJ τ f_32 u0 rq mq := ⟨sx, sy, rl, rb, rr, rt, ml, mb, mr, mt, ⟨trq, tmq⟩, ⟨k32_u0_3, k32_u0_2, k32_u0_9, k32_u0_10⟩, ⟨k32_rq_0, k32_rq_1, k32_rq_2, k32_rq_3⟩, ⟨k32_mq_0, k32_mq_1, k32_mq_2, k32_mq_3⟩, ⟨isx, isy, irl, irb, irr, irt, iml, imb, imr, imt⟩, ⟨by omega, by omega, by omega, by omega⟩, ⟨by omega, by omega, by omega, by omega⟩⟩
                obtain ⟨_, r30⟩ := t_rec t_32 hu0 (by decide) wf_20
                refine k_l (r_V C h hl (As := [.int v11_4, .int v32_5]) (rest := [.long v32_2]) (s_X2_seen l D G b0 τ f_32 t_32 u0 hu0 v11_4 (iv_w jv32_4 (by decide)) v32_5 (iv_w i27 (by decide)) rq mq gj29) r30 (Cn := RX2) (T := TX2) (N := 11) rfl rfl mk_X2_seen w_744 w_710 w_711 w_712 ⟨Nat.le_of_ble_eq_true rfl, Nat.le_of_ble_eq_true rfl⟩ rfl (Nat.le_of_ble_eq_true rfl) ⟨Nat.le_of_ble_eq_true rfl, Nat.le_of_ble_eq_true rfl⟩ rfl dX2_leaving_60) h (fun r31 f32 H locs p33 h => ?_)
                obtain ⟨tf32, ogf32⟩ := p33
                have egf32 := Fr.nil2 ogf32
                subst egf32
                refine lv_aload_n hx hb dX2_leaving_63 rfl (lv_at hl 0 rfl) ?_
                refine lv_aload_n hx hb dX2_leaving_64 rfl (lv_at hl 1 rfl) ?_
                refine lv_iload hx hb dX2_leaving_65 (lv_at hl 3 rfl) ?_
                refine lv_iload hx hb dX2_leaving_67 (lv_at hl 4 rfl) ?_
                obtain ⟨_, r34⟩ := t_rec t_32 hu0 (by decide) wf_20
                refine k_i (r_V C h hl (As := [.ref u1, .int v11_4, .int v32_5]) (rest := [.long r31, .long v32_2]) (s_X2_weightOut l D G b0 τ f_32 t_32 u0 hu0 u1 hu1 v11_4 (iv_w jv32_4 (by decide)) v32_5 (iv_w i27 (by decide))) r34 (Cn := RX2) (T := TX2) (N := 11) rfl rfl mk_X2_weightOut w_843 w_845 w_22 w_846 ⟨Nat.le_of_ble_eq_true rfl, Nat.le_of_ble_eq_true rfl⟩ rfl (Nat.le_of_ble_eq_true rfl) ⟨Nat.le_of_ble_eq_true rfl, Nat.le_of_ble_eq_true rfl⟩ rfl dX2_leaving_69) h (fun r35 f36 H locs p37 h => ?_)
                obtain ⟨ir35, tf36, ogf36⟩ := p37
                have egf36 := Fr.nil2 ogf36
                subst egf36
                refine lv_i2l hx hb dX2_leaving_72 rfl (i_topL ir35 (fun w38 ew38 mw38 iw38 => ?_))
                refine lv_lmul hx hb dX2_leaving_73 (lv_topl (fun w39 ew39 => ?_))
                refine lv_ladd hx hb dX2_leaving_74 (lv_topl (fun w40 ew40 => ?_))
                refine lv_lstore_n (lv' := [(2, .long w40), (0, .ref u0), (1, .ref u1), (4, .int v11_4), (5, .int v32_5)]) hx hb dX2_leaving_75 rfl hl (by decide) rfl (fun ls hl => ?_)
                refine i_inc hx hb dX2_leaving_76 hl (k := 4) rfl i27 rfl (lo := 1) (hi := 1) (by decide) (by decide) (lv' := fun v => [(5, .int v), (2, .long w40), (0, .ref u0), (1, .ref u1), (4, .int v11_4)]) (fun _ => rfl) (fun z41 ls ez41 mz41 iz41 hl => ?_)
                refine lv_goto (tgt := 32) hx hb dX2_leaving_79 (by decide) ?_
                exact ih32 ls f_32 H locs w40 z41 (show 70 - z41.toInt < _ by omega) (lv_cons hl 2 rfl (lv_cons hl 3 rfl (lv_cons hl 1 rfl (lv_cons hl 4 rfl (lv_cons hl 0 rfl (lv_nil hl)))))) h t_32 o_32 jv32_4 (iv_w iz41 (by decide)) k32_u0_3 k32_u0_2 k32_u0_9 k32_u0_10 k32_rq_0 k32_rq_1 k32_rq_2 k32_rq_3 k32_mq_0 k32_mq_1 k32_mq_2 k32_mq_3
      refine lv_iload hx hb dX2_leaving_11 (lv_at hl 3 rfl) ?_
      refine lv_aload_n hx hb dX2_leaving_13 rfl (lv_at hl 0 rfl) ?_
      refine t_getfd C h t_11 hu0 (by decide) wf_20 (v := .ref rq) k11_u0_3 fl_X2_25 dX2_leaving_14 ?_
      refine t_getfd C h t_11 trq (by decide) wf_23 (v := .int rr) k11_rq_2 fl_X2_66 dX2_leaving_17 ?_
      refine lv_icmp_gt (tgt := 88) hx hb dX2_leaving_20 (by decide) (fun c42 => ?_) (fun c42 => ?_)
      · have c43 : rr.toInt < v11_4.toInt := Int32.lt_iff_toInt_lt.mp c42
        have i44 : iv v11_4 (-59) 70 := iv_Lr c43 irr iv11_4 (by decide)
        refine lv_lload_n hx hb dX2_leaving_88 rfl (lv_at hl 2 rfl) ?_
        refine k_i (r_SN C h hl (host := "QuarterWalks") (As := [.long v11_2]) (rest := []) (s_X10_residue l D G b0 τ f_11 t_11 v11_2) mk_X10_residue (by decide) w_741 w_742 ⟨Nat.le_of_ble_eq_true rfl, Nat.le_of_ble_eq_true rfl⟩ rfl (Nat.le_of_ble_eq_true rfl) ⟨Nat.le_of_ble_eq_true rfl, Nat.le_of_ble_eq_true rfl⟩ rfl dX2_leaving_89) h (fun r47 f48 H locs p49 h => ?_)
        obtain ⟨ir47, tf48, ogf48⟩ := p49
        have egf48 := Fr.nil2 ogf48
        subst egf48
        exact u_iret C h hr hQ (⟨ir47, t_11, o_11⟩) (Nat.le_of_ble_eq_true rfl) (Nat.le_of_ble_eq_true rfl) dX2_leaving_92
      · have c45 : v11_4.toInt ≤ rr.toInt := Int32.le_iff_toInt_le.mp (iv_nlt c42)
        have i46 : iv v11_4 (-60) 69 := iv_El c45 iv11_4 irr (by decide)
        refine lv_aload_n hx hb dX2_leaving_23 rfl (lv_at hl 0 rfl) ?_
        refine t_getfd C h t_11 hu0 (by decide) wf_20 (v := .ref rq) k11_u0_3 fl_X2_25 dX2_leaving_24 ?_
        refine t_getfd C h t_11 trq (by decide) wf_23 (v := .int rb) k11_rq_1 fl_X2_63 dX2_leaving_27 ?_
        refine lv_istore (lv' := [(5, .int rb), (0, .ref u0), (1, .ref u1), (2, .long v11_2), (4, .int v11_4)]) hx hb dX2_leaving_30 hl (by decide) rfl (fun ls hl => ?_)
        exact L32 131 ls f_11 H locs v11_2 rb (show 70 - rb.toInt < _ by omega) (lv_cons hl 1 rfl (lv_cons hl 2 rfl (lv_cons hl 3 rfl (lv_cons hl 4 rfl (lv_cons hl 0 rfl (lv_nil hl)))))) h t_11 o_11 i46 (iv_w irb (by decide)) k11_u0_3 k11_u0_2 k11_u0_9 k11_u0_10 k11_rq_0 k11_rq_1 k11_rq_2 k11_rq_3 k11_mq_0 k11_mq_1 k11_mq_2 k11_mq_3
  refine lv_lconst (v := 0) hx hb dX2_leaving_0 (by decide) ?_
  refine lv_lstore_n (lv' := [(2, .long 0), (0, .ref u0), (1, .ref u1)]) hx hb dX2_leaving_1 rfl hl (by decide) rfl (fun ls hl => ?_)
  refine lv_aload_n hx hb dX2_leaving_2 rfl (lv_at hl 1 rfl) ?_
  refine t_getfd C h t hu0 (by decide) wf_20 (v := .ref rq) kg3 fl_X2_25 dX2_leaving_3 ?_
  refine t_getfd C h t trq (by decide) wf_23 (v := .int rl) krl fl_X2_60 dX2_leaving_6 ?_
  refine lv_istore (lv' := [(4, .int rl), (2, .long 0), (0, .ref u0), (1, .ref u1)]) hx hb dX2_leaving_9 hl (by decide) rfl (fun ls hl => ?_)
  exact L11 131 ls f s.heap [] 0 rl (show 70 - rl.toInt < _ by omega) (lv_cons hl 2 rfl (lv_cons hl 3 rfl (lv_cons hl 1 rfl (lv_cons hl 0 rfl (lv_nil hl))))) h t o (iv_w irl (by decide)) kg3 kg2 ksx ksy krl krb krr krt kml kmb kmr kmt
abbrev rm_s_X2_valueAt : Room := { frames := 2, cells := 0, slots := 0, locals := 44 }
set_option maxRecDepth 100000 in
set_option maxHeartbeats 4000000 in
theorem s_X2_valueAt (l : Launch) (D : va_G) (G : Nat → Nat) (b0 : Nat) (τ : Nat → Nat) (f : hM) (t : TI G 9 τ f) (u0 : Nat) (hu0 : τ u0 = 20) (u1 : Int32) (hu1 : iv u1 (-2147483648) 2147483647) (u2 : Int32) (hu2 : iv u2 (-2147483648) 2147483647) (rq mq : Nat) (hGJ : GJ τ f u0 rq mq) : mI l yX2_valueAt cX2_valueAt 7 (.int) rm_s_X2_valueAt D G b0 f [.ref u0, .int u1, .int u2] (fun r f1 => iv r (-2147483648) 2147483647 ∧ TI G 9 τ f1 ∧ Fr [] τ f f1) := by
  refine met2 (own := RX2) (by decide) rfl (Nat.le_of_ble_eq_true rfl) ?_
  intro p e s m args below meth c ls Q hQ C hr hini hl h
  have hl : lv_has ls 7 [(0, .ref u0), (1, .int u1), (2, .int u2)] := hl
  obtain ⟨hx, hb, hml, hown, hts, hE0, hlk⟩ := id C
  have o := Fr.rf [] τ f
  obtain ⟨sx, sy, rl, rb, rr, rt, ml, mb, mr, mt, ⟨trq, tmq⟩, ⟨kg3, kg2, ksx, ksy⟩, ⟨krl, krb, krr, krt⟩, ⟨kml, kmb, kmr, kmt⟩, ⟨isx, isy, irl, irb, irr, irt, iml, imb, imr, imt⟩, ⟨gr1, gr2, gr3, gr4⟩, ⟨gr5, gr6, gr7, gr8⟩⟩ := hGJ
  have L11 : ∀ (n11 : Nat) (ls : Array Slot) (f_11 : hM) (H : Heap) (locs : List Loc) (v11_3 : Int32) (v11_4 : Int32), v11_4.toInt - (-60) < (n11 : Int) → lv_has ls 7 [(0, .ref u0), (1, .int u1), (2, .int u2), (3, .int v11_3), (4, .int v11_4)] → hw D b0 s.heap f_11 H locs → TI G 9 τ f_11 → Fr [] τ f f_11 → iv v11_3 (-2147483648) 2147483647 → iv v11_4 (-60) 69 → atp f_11 u0 (fd 3 (.ref rq)) → atp f_11 u0 (fd 2 (.ref mq)) → atp f_11 u0 (fd 9 (.int sx)) → atp f_11 u0 (fd 10 (.int sy)) → atp f_11 rq (fd 0 (.int rl)) → atp f_11 rq (fd 1 (.int rb)) → atp f_11 rq (fd 2 (.int rr)) → atp f_11 rq (fd 3 (.int rt)) → atp f_11 mq (fd 0 (.int ml)) → atp f_11 mq (fd 1 (.int mb)) → atp f_11 mq (fd 2 (.int mr)) → atp f_11 mq (fd 3 (.int mt)) → W p l e rm_s_X2_valueAt s m args below meth c H locs 0 0 Q (F0 m 11 ls []) := by
    intro n11
    induction n11 with
    | zero => intro ls f_11 H locs v11_3 v11_4 hm11 hl h t_11 o_11 iv11_3 iv11_4 k11_u0_3 k11_u0_2 k11_u0_9 k11_u0_10 k11_rq_0 k11_rq_1 k11_rq_2 k11_rq_3 k11_mq_0 k11_mq_1 k11_mq_2 k11_mq_3; exact absurd hm11 (by omega)
    | succ n11 ih11 =>
      intro ls f_11 H locs v11_3 v11_4 hm11 hl h t_11 o_11 iv11_3 iv11_4 k11_u0_3 k11_u0_2 k11_u0_9 k11_u0_10 k11_rq_0 k11_rq_1 k11_rq_2 k11_rq_3 k11_mq_0 k11_mq_1 k11_mq_2 k11_mq_3
      have L28 : ∀ (n28 : Nat) (ls : Array Slot) (f_28 : hM) (H : Heap) (locs : List Loc) (v28_5 : Int32) (v28_6 : Int32), v28_6.toInt - (-60) < (n28 : Int) → lv_has ls 7 [(0, .ref u0), (1, .int u1), (2, .int u2), (3, .int v11_3), (4, .int v11_4), (5, .int v28_5), (6, .int v28_6)] → hw D b0 s.heap f_28 H locs → TI G 9 τ f_28 → Fr [] τ f f_28 → iv v11_4 0 69 → iv v28_5 (-2147483648) 2147483647 → iv v28_6 (-60) 69 → atp f_28 u0 (fd 3 (.ref rq)) → atp f_28 u0 (fd 2 (.ref mq)) → atp f_28 u0 (fd 9 (.int sx)) → atp f_28 u0 (fd 10 (.int sy)) → atp f_28 rq (fd 0 (.int rl)) → atp f_28 rq (fd 1 (.int rb)) → atp f_28 rq (fd 2 (.int rr)) → atp f_28 rq (fd 3 (.int rt)) → atp f_28 mq (fd 0 (.int ml)) → atp f_28 mq (fd 1 (.int mb)) → atp f_28 mq (fd 2 (.int mr)) → atp f_28 mq (fd 3 (.int mt)) → W p l e rm_s_X2_valueAt s m args below meth c H locs 0 0 Q (F0 m 28 ls []) := by
        intro n28
        induction n28 with
        | zero => intro ls f_28 H locs v28_5 v28_6 hm28 hl h t_28 o_28 jv28_4 iv28_5 iv28_6 k28_u0_3 k28_u0_2 k28_u0_9 k28_u0_10 k28_rq_0 k28_rq_1 k28_rq_2 k28_rq_3 k28_mq_0 k28_mq_1 k28_mq_2 k28_mq_3; exact absurd hm28 (by omega)
        | succ n28 ih28 =>
          intro ls f_28 H locs v28_5 v28_6 hm28 hl h t_28 o_28 jv28_4 iv28_5 iv28_6 k28_u0_3 k28_u0_2 k28_u0_9 k28_u0_10 k28_rq_0 k28_rq_1 k28_rq_2 k28_rq_3 k28_mq_0 k28_mq_1 k28_mq_2 k28_mq_3
          refine lv_iload hx hb dX2_valueAt_28 (lv_at hl 6 rfl) ?_
          refine lv_if_lt (tgt := 59) hx hb dX2_valueAt_30 (by decide) (fun c1 => ?_) (fun c1 => ?_)
          · have c2 : v28_6.toInt < 0 := Int32.lt_iff_toInt_lt.mp c1
            have i3 : iv v28_6 (-60) (-1) := iv_Ll c2 iv28_6 (iv_k (x := 0) (k := 0) rfl) (by decide)
            refine lv_iload_n hx hb dX2_valueAt_59 rfl (lv_at hl 3 rfl) ?_
            refine lv_i2l hx hb dX2_valueAt_60 rfl (i_topL iv11_3 (fun w6 ew6 mw6 iw6 => ?_))
            refine lv_iload_n hx hb dX2_valueAt_61 rfl (lv_at hl 1 rfl) ?_
            refine lv_i2l hx hb dX2_valueAt_62 rfl (i_topL hu1 (fun w7 ew7 mw7 iw7 => ?_))
            refine lv_lmul hx hb dX2_valueAt_63 (lv_topl (fun w8 ew8 => ?_))
            refine lv_iload hx hb dX2_valueAt_64 (lv_at hl 5 rfl) ?_
            refine lv_i2l hx hb dX2_valueAt_66 rfl (i_topL iv28_5 (fun w9 ew9 mw9 iw9 => ?_))
            refine lv_ladd hx hb dX2_valueAt_67 (lv_topl (fun w10 ew10 => ?_))
            refine k_i (r_SN C h hl (host := "QuarterWalks") (As := [.long w10]) (rest := []) (s_X10_residue l D G b0 τ f_28 t_28 w10) mk_X10_residue (by decide) w_741 w_742 ⟨Nat.le_of_ble_eq_true rfl, Nat.le_of_ble_eq_true rfl⟩ rfl (Nat.le_of_ble_eq_true rfl) ⟨Nat.le_of_ble_eq_true rfl, Nat.le_of_ble_eq_true rfl⟩ rfl dX2_valueAt_68) h (fun r11 f12 H locs p13 h => ?_)
            obtain ⟨ir11, tf12, ogf12⟩ := p13
            have egf12 := Fr.nil2 ogf12
            subst egf12
            refine lv_istore_n (lv' := [(3, .int r11), (0, .ref u0), (1, .int u1), (2, .int u2), (4, .int v11_4), (5, .int v28_5), (6, .int v28_6)]) hx hb dX2_valueAt_71 rfl hl (by decide) rfl (fun ls hl => ?_)
            refine i_inc hx hb dX2_valueAt_72 hl (k := 4) rfl jv28_4 rfl (lo := (-1)) (hi := 68) (by decide) (by decide) (lv' := fun v => [(4, .int v), (3, .int r11), (0, .ref u0), (1, .int u1), (2, .int u2), (5, .int v28_5), (6, .int v28_6)]) (fun _ => rfl) (fun z14 ls ez14 mz14 iz14 hl => ?_)
            refine lv_goto (tgt := 11) hx hb dX2_valueAt_75 (by decide) ?_
            exact ih11 ls f_28 H locs r11 z14 (show z14.toInt - (-60) < _ by omega) (lv_cons hl 2 rfl (lv_cons hl 3 rfl (lv_cons hl 4 rfl (lv_cons hl 1 rfl (lv_cons hl 0 rfl (lv_nil hl)))))) h t_28 o_28 ir11 (iv_w iz14 (by decide)) k28_u0_3 k28_u0_2 k28_u0_9 k28_u0_10 k28_rq_0 k28_rq_1 k28_rq_2 k28_rq_3 k28_mq_0 k28_mq_1 k28_mq_2 k28_mq_3
          · have c4 : 0 ≤ v28_6.toInt := Int32.le_iff_toInt_le.mp (iv_nlt c1)
            have i5 : iv v28_6 0 69 := iv_Er c4 (iv_k (x := 0) (k := 0) rfl) iv28_6 (by decide)
            refine lv_iload hx hb dX2_valueAt_33 (lv_at hl 5 rfl) ?_
            refine lv_i2l hx hb dX2_valueAt_35 rfl (i_topL iv28_5 (fun w15 ew15 mw15 iw15 => ?_))
            refine lv_iload_n hx hb dX2_valueAt_36 rfl (lv_at hl 2 rfl) ?_
            refine lv_i2l hx hb dX2_valueAt_37 rfl (i_topL hu2 (fun w16 ew16 mw16 iw16 => ?_))
            refine lv_lmul hx hb dX2_valueAt_38 (lv_topl (fun w17 ew17 => ?_))
            refine lv_aload_n hx hb dX2_valueAt_39 rfl (lv_at hl 0 rfl) ?_
            refine lv_iload hx hb dX2_valueAt_40 (lv_at hl 4 rfl) ?_
            refine lv_iload hx hb dX2_valueAt_42 (lv_at hl 6 rfl) ?_
            have gj18 : GJ τ f_28 u0 rq mq := ⟨sx, sy, rl, rb, rr, rt, ml, mb, mr, mt, ⟨trq, tmq⟩, ⟨k28_u0_3, k28_u0_2, k28_u0_9, k28_u0_10⟩, ⟨k28_rq_0, k28_rq_1, k28_rq_2, k28_rq_3⟩, ⟨k28_mq_0, k28_mq_1, k28_mq_2, k28_mq_3⟩, ⟨isx, isy, irl, irb, irr, irt, iml, imb, imr, imt⟩, ⟨by omega, by omega, by omega, by omega⟩, ⟨by omega, by omega, by omega, by omega⟩⟩
            obtain ⟨_, r19⟩ := t_rec t_28 hu0 (by decide) wf_20
            refine k_l (r_V C h hl (As := [.int v11_4, .int v28_6]) (rest := [.long w17]) (s_X2_seen l D G b0 τ f_28 t_28 u0 hu0 v11_4 (iv_w jv28_4 (by decide)) v28_6 (iv_w i5 (by decide)) rq mq gj18) r19 (Cn := RX2) (T := TX2) (N := 11) rfl rfl mk_X2_seen w_744 w_710 w_711 w_712 ⟨Nat.le_of_ble_eq_true rfl, Nat.le_of_ble_eq_true rfl⟩ rfl (Nat.le_of_ble_eq_true rfl) ⟨Nat.le_of_ble_eq_true rfl, Nat.le_of_ble_eq_true rfl⟩ rfl dX2_valueAt_44) h (fun r20 f21 H locs p22 h => ?_)
            obtain ⟨tf21, ogf21⟩ := p22
            have egf21 := Fr.nil2 ogf21
            subst egf21
            refine lv_ladd hx hb dX2_valueAt_47 (lv_topl (fun w23 ew23 => ?_))
            refine k_i (r_SN C h hl (host := "QuarterWalks") (As := [.long w23]) (rest := []) (s_X10_residue l D G b0 τ f_28 t_28 w23) mk_X10_residue (by decide) w_741 w_742 ⟨Nat.le_of_ble_eq_true rfl, Nat.le_of_ble_eq_true rfl⟩ rfl (Nat.le_of_ble_eq_true rfl) ⟨Nat.le_of_ble_eq_true rfl, Nat.le_of_ble_eq_true rfl⟩ rfl dX2_valueAt_48) h (fun r24 f25 H locs p26 h => ?_)
            obtain ⟨ir24, tf25, ogf25⟩ := p26
            have egf25 := Fr.nil2 ogf25
            subst egf25
            refine lv_istore (lv' := [(5, .int r24), (0, .ref u0), (1, .int u1), (2, .int u2), (3, .int v11_3), (4, .int v11_4), (6, .int v28_6)]) hx hb dX2_valueAt_51 hl (by decide) rfl (fun ls hl => ?_)
            refine i_inc hx hb dX2_valueAt_53 hl (k := 6) rfl i5 rfl (lo := (-1)) (hi := 68) (by decide) (by decide) (lv' := fun v => [(6, .int v), (5, .int r24), (0, .ref u0), (1, .int u1), (2, .int u2), (3, .int v11_3), (4, .int v11_4)]) (fun _ => rfl) (fun z27 ls ez27 mz27 iz27 hl => ?_)
            refine lv_goto (tgt := 28) hx hb dX2_valueAt_56 (by decide) ?_
            exact ih28 ls f_28 H locs r24 z27 (show z27.toInt - (-60) < _ by omega) (lv_cons hl 2 rfl (lv_cons hl 3 rfl (lv_cons hl 4 rfl (lv_cons hl 5 rfl (lv_cons hl 6 rfl (lv_cons hl 1 rfl (lv_cons hl 0 rfl (lv_nil hl)))))))) h t_28 o_28 jv28_4 ir24 (iv_w iz27 (by decide)) k28_u0_3 k28_u0_2 k28_u0_9 k28_u0_10 k28_rq_0 k28_rq_1 k28_rq_2 k28_rq_3 k28_mq_0 k28_mq_1 k28_mq_2 k28_mq_3
      refine lv_iload hx hb dX2_valueAt_11 (lv_at hl 4 rfl) ?_
      refine lv_if_lt (tgt := 78) hx hb dX2_valueAt_13 (by decide) (fun c28 => ?_) (fun c28 => ?_)
      · have c29 : v11_4.toInt < 0 := Int32.lt_iff_toInt_lt.mp c28
        have i30 : iv v11_4 (-60) (-1) := iv_Ll c29 iv11_4 (iv_k (x := 0) (k := 0) rfl) (by decide)
        refine lv_iload_n hx hb dX2_valueAt_78 rfl (lv_at hl 3 rfl) ?_
        exact u_iret C h hr hQ (⟨iv11_3, t_11, o_11⟩) (Nat.le_of_ble_eq_true rfl) (Nat.le_of_ble_eq_true rfl) dX2_valueAt_79
      · have c31 : 0 ≤ v11_4.toInt := Int32.le_iff_toInt_le.mp (iv_nlt c28)
        have i32 : iv v11_4 0 69 := iv_Er c31 (iv_k (x := 0) (k := 0) rfl) iv11_4 (by decide)
        refine lv_iconst (v := 0) hx hb dX2_valueAt_16 (by decide) ?_
        refine lv_istore (lv' := [(5, .int 0), (0, .ref u0), (1, .int u1), (2, .int u2), (3, .int v11_3), (4, .int v11_4)]) hx hb dX2_valueAt_17 hl (by decide) rfl (fun ls hl => ?_)
        refine lv_aload_n hx hb dX2_valueAt_19 rfl (lv_at hl 1 rfl) ?_
        refine t_getfd C h t_11 hu0 (by decide) wf_20 (v := .ref rq) k11_u0_3 fl_X2_25 dX2_valueAt_20 ?_
        refine t_getfd C h t_11 trq (by decide) wf_23 (v := .int rt) k11_rq_3 fl_X2_69 dX2_valueAt_23 ?_
        refine lv_istore (lv' := [(6, .int rt), (5, .int 0), (0, .ref u0), (1, .int u1), (2, .int u2), (3, .int v11_3), (4, .int v11_4)]) hx hb dX2_valueAt_26 hl (by decide) rfl (fun ls hl => ?_)
        exact L28 130 ls f_11 H locs 0 rt (show rt.toInt - (-60) < _ by omega) (lv_cons hl 2 rfl (lv_cons hl 3 rfl (lv_cons hl 4 rfl (lv_cons hl 5 rfl (lv_cons hl 6 rfl (lv_cons hl 1 rfl (lv_cons hl 0 rfl (lv_nil hl)))))))) h t_11 o_11 i32 ⟨by decide, by decide⟩ irt k11_u0_3 k11_u0_2 k11_u0_9 k11_u0_10 k11_rq_0 k11_rq_1 k11_rq_2 k11_rq_3 k11_mq_0 k11_mq_1 k11_mq_2 k11_mq_3
  refine lv_iconst (v := 0) hx hb dX2_valueAt_0 (by decide) ?_
  refine lv_istore_n (lv' := [(3, .int 0), (0, .ref u0), (1, .int u1), (2, .int u2)]) hx hb dX2_valueAt_1 rfl hl (by decide) rfl (fun ls hl => ?_)
  refine lv_aload_n hx hb dX2_valueAt_2 rfl (lv_at hl 1 rfl) ?_
  refine t_getfd C h t hu0 (by decide) wf_20 (v := .ref rq) kg3 fl_X2_25 dX2_valueAt_3 ?_
  refine t_getfd C h t trq (by decide) wf_23 (v := .int rr) krr fl_X2_66 dX2_valueAt_6 ?_
  refine lv_istore (lv' := [(4, .int rr), (3, .int 0), (0, .ref u0), (1, .int u1), (2, .int u2)]) hx hb dX2_valueAt_9 hl (by decide) rfl (fun ls hl => ?_)
  exact L11 130 ls f s.heap [] 0 rr (show rr.toInt - (-60) < _ by omega) (lv_cons hl 2 rfl (lv_cons hl 3 rfl (lv_cons hl 4 rfl (lv_cons hl 1 rfl (lv_cons hl 0 rfl (lv_nil hl)))))) h t o ⟨by decide, by decide⟩ irr kg3 kg2 ksx ksy krl krb krr krt kml kmb kmr kmt
abbrev rm_s_X2_highest : Room := { frames := 2, cells := 0, slots := 0, locals := 44 }
set_option maxRecDepth 100000 in
set_option maxHeartbeats 4000000 in
theorem s_X2_highest (l : Launch) (D : va_G) (G : Nat → Nat) (b0 : Nat) (τ : Nat → Nat) (f : hM) (t : TI G 9 τ f) (u0 : Nat) (hu0 : τ u0 = 20) (u1 : Int32) (hu1 : iv u1 (-2147483648) 2147483647) (rq mq : Nat) (hGJ : GJ τ f u0 rq mq) : mI l yX2_highest cX2_highest 8 (.int) rm_s_X2_highest D G b0 f [.ref u0, .int u1] (fun r f1 => iv r (-2147483648) 2147483647 ∧ TI G 9 τ f1 ∧ Fr [] τ f f1) := by
  refine met2 (own := RX2) (by decide) rfl (Nat.le_of_ble_eq_true rfl) ?_
  intro p e s m args below meth c ls Q hQ C hr hini hl h
  have hl : lv_has ls 8 [(0, .ref u0), (1, .int u1)] := hl
  obtain ⟨hx, hb, hml, hown, hts, hE0, hlk⟩ := id C
  have o := Fr.rf [] τ f
  obtain ⟨sx, sy, rl, rb, rr, rt, ml, mb, mr, mt, ⟨trq, tmq⟩, ⟨kg3, kg2, ksx, ksy⟩, ⟨krl, krb, krr, krt⟩, ⟨kml, kmb, kmr, kmt⟩, ⟨isx, isy, irl, irb, irr, irt, iml, imb, imr, imt⟩, ⟨gr1, gr2, gr3, gr4⟩, ⟨gr5, gr6, gr7, gr8⟩⟩ := hGJ
  have L17 : ∀ (n17 : Nat) (ls : Array Slot) (f_17 : hM) (H : Heap) (locs : List Loc) (v17_2 : Int64) (v17_4 : Int32) (v17_5 : Int32) (v17_6 : Int32), 70 - v17_6.toInt < (n17 : Int) → lv_has ls 8 [(0, .ref u0), (1, .int u1), (2, .long v17_2), (4, .int v17_4), (5, .int v17_5), (6, .int v17_6)] → hw D b0 s.heap f_17 H locs → TI G 9 τ f_17 → Fr [] τ f f_17 → iv v17_4 (-60) 69 → iv v17_5 (-60) 69 → iv v17_6 (-60) 70 → atp f_17 u0 (fd 3 (.ref rq)) → atp f_17 u0 (fd 2 (.ref mq)) → atp f_17 u0 (fd 9 (.int sx)) → atp f_17 u0 (fd 10 (.int sy)) → atp f_17 rq (fd 0 (.int rl)) → atp f_17 rq (fd 1 (.int rb)) → atp f_17 rq (fd 2 (.int rr)) → atp f_17 rq (fd 3 (.int rt)) → atp f_17 mq (fd 0 (.int ml)) → atp f_17 mq (fd 1 (.int mb)) → atp f_17 mq (fd 2 (.int mr)) → atp f_17 mq (fd 3 (.int mt)) → W p l e rm_s_X2_highest s m args below meth c H locs 0 0 Q (F0 m 17 ls []) := by
    intro n17
    induction n17 with
    | zero => intro ls f_17 H locs v17_2 v17_4 v17_5 v17_6 hm17 hl h t_17 o_17 iv17_4 iv17_5 iv17_6 k17_u0_3 k17_u0_2 k17_u0_9 k17_u0_10 k17_rq_0 k17_rq_1 k17_rq_2 k17_rq_3 k17_mq_0 k17_mq_1 k17_mq_2 k17_mq_3; exact absurd hm17 (by omega)
    | succ n17 ih17 =>
      intro ls f_17 H locs v17_2 v17_4 v17_5 v17_6 hm17 hl h t_17 o_17 iv17_4 iv17_5 iv17_6 k17_u0_3 k17_u0_2 k17_u0_9 k17_u0_10 k17_rq_0 k17_rq_1 k17_rq_2 k17_rq_3 k17_mq_0 k17_mq_1 k17_mq_2 k17_mq_3
      have L38 : ∀ (n38 : Nat) (ls : Array Slot) (f_38 : hM) (H : Heap) (locs : List Loc) (v38_2 : Int64) (v38_4 : Int32) (v38_5 : Int32) (v38_7 : Int32), 70 - v38_7.toInt < (n38 : Int) → lv_has ls 8 [(0, .ref u0), (1, .int u1), (2, .long v38_2), (4, .int v38_4), (5, .int v38_5), (6, .int v17_6), (7, .int v38_7)] → hw D b0 s.heap f_38 H locs → TI G 9 τ f_38 → Fr [] τ f f_38 → iv v38_4 (-60) 69 → iv v38_5 (-60) 69 → iv v17_6 (-60) 69 → iv v38_7 (-60) 70 → atp f_38 u0 (fd 3 (.ref rq)) → atp f_38 u0 (fd 2 (.ref mq)) → atp f_38 u0 (fd 9 (.int sx)) → atp f_38 u0 (fd 10 (.int sy)) → atp f_38 rq (fd 0 (.int rl)) → atp f_38 rq (fd 1 (.int rb)) → atp f_38 rq (fd 2 (.int rr)) → atp f_38 rq (fd 3 (.int rt)) → atp f_38 mq (fd 0 (.int ml)) → atp f_38 mq (fd 1 (.int mb)) → atp f_38 mq (fd 2 (.int mr)) → atp f_38 mq (fd 3 (.int mt)) → W p l e rm_s_X2_highest s m args below meth c H locs 0 0 Q (F0 m 38 ls []) := by
        intro n38
        induction n38 with
        | zero => intro ls f_38 H locs v38_2 v38_4 v38_5 v38_7 hm38 hl h t_38 o_38 iv38_4 iv38_5 jv38_6 iv38_7 k38_u0_3 k38_u0_2 k38_u0_9 k38_u0_10 k38_rq_0 k38_rq_1 k38_rq_2 k38_rq_3 k38_mq_0 k38_mq_1 k38_mq_2 k38_mq_3; exact absurd hm38 (by omega)
        | succ n38 ih38 =>
          intro ls f_38 H locs v38_2 v38_4 v38_5 v38_7 hm38 hl h t_38 o_38 iv38_4 iv38_5 jv38_6 iv38_7 k38_u0_3 k38_u0_2 k38_u0_9 k38_u0_10 k38_rq_0 k38_rq_1 k38_rq_2 k38_rq_3 k38_mq_0 k38_mq_1 k38_mq_2 k38_mq_3
          refine lv_iload hx hb dX2_highest_38 (lv_at hl 6 rfl) ?_
          refine lv_aload_n hx hb dX2_highest_40 rfl (lv_at hl 0 rfl) ?_
          refine t_getfd C h t_38 hu0 (by decide) wf_20 (v := .ref rq) k38_u0_3 fl_X2_25 dX2_highest_41 ?_
          refine t_getfd C h t_38 trq (by decide) wf_23 (v := .int rt) k38_rq_3 fl_X2_69 dX2_highest_44 ?_
          refine lv_icmp_gt (tgt := 86) hx hb dX2_highest_47 (by decide) (fun c1 => ?_) (fun c1 => ?_)
          · have c2 : rt.toInt < v38_7.toInt := Int32.lt_iff_toInt_lt.mp c1
            have i3 : iv v38_7 (-59) 70 := iv_Lr c2 irt iv38_7 (by decide)
            refine i_inc hx hb dX2_highest_86 hl (k := 5) rfl jv38_6 rfl (lo := (-59)) (hi := 70) (by decide) (by decide) (lv' := fun v => [(6, .int v), (0, .ref u0), (1, .int u1), (2, .long v38_2), (4, .int v38_4), (5, .int v38_5), (7, .int v38_7)]) (fun _ => rfl) (fun z6 ls ez6 mz6 iz6 hl => ?_)
            refine lv_goto (tgt := 17) hx hb dX2_highest_89 (by decide) ?_
            exact ih17 ls f_38 H locs v38_2 v38_4 v38_5 z6 (show 70 - z6.toInt < _ by omega) (lv_cons hl 1 rfl (lv_cons hl 2 rfl (lv_cons hl 3 rfl (lv_cons hl 4 rfl (lv_cons hl 5 rfl (lv_cons hl 0 rfl (lv_nil hl))))))) h t_38 o_38 iv38_4 iv38_5 (iv_w iz6 (by decide)) k38_u0_3 k38_u0_2 k38_u0_9 k38_u0_10 k38_rq_0 k38_rq_1 k38_rq_2 k38_rq_3 k38_mq_0 k38_mq_1 k38_mq_2 k38_mq_3
          · have c4 : v38_7.toInt ≤ rt.toInt := Int32.le_iff_toInt_le.mp (iv_nlt c1)
            have i5 : iv v38_7 (-60) 69 := iv_El c4 iv38_7 irt (by decide)
            refine lv_aload_n hx hb dX2_highest_50 rfl (lv_at hl 0 rfl) ?_
            refine lv_iload hx hb dX2_highest_51 (lv_at hl 5 rfl) ?_
            refine lv_iload hx hb dX2_highest_53 (lv_at hl 6 rfl) ?_
            have gj7 : GJ τ f_38 u0 rq mq := ⟨sx, sy, rl, rb, rr, rt, ml, mb, mr, mt, ⟨trq, tmq⟩, ⟨k38_u0_3, k38_u0_2, k38_u0_9, k38_u0_10⟩, ⟨k38_rq_0, k38_rq_1, k38_rq_2, k38_rq_3⟩, ⟨k38_mq_0, k38_mq_1, k38_mq_2, k38_mq_3⟩, ⟨isx, isy, irl, irb, irr, irt, iml, imb, imr, imt⟩, ⟨by omega, by omega, by omega, by omega⟩, ⟨by omega, by omega, by omega, by omega⟩⟩
            obtain ⟨_, r8⟩ := t_rec t_38 hu0 (by decide) wf_20
            refine k_l (r_V C h hl (As := [.int v17_6, .int v38_7]) (rest := []) (s_X2_seen l D G b0 τ f_38 t_38 u0 hu0 v17_6 (iv_w jv38_6 (by decide)) v38_7 (iv_w i5 (by decide)) rq mq gj7) r8 (Cn := RX2) (T := TX2) (N := 11) rfl rfl mk_X2_seen w_744 w_710 w_711 w_712 ⟨Nat.le_of_ble_eq_true rfl, Nat.le_of_ble_eq_true rfl⟩ rfl (Nat.le_of_ble_eq_true rfl) ⟨Nat.le_of_ble_eq_true rfl, Nat.le_of_ble_eq_true rfl⟩ rfl dX2_highest_55) h (fun r9 f10 H locs p11 h => ?_)
            obtain ⟨tf10, ogf10⟩ := p11
            have egf10 := Fr.nil2 ogf10
            subst egf10
            refine lv_lload_n hx hb dX2_highest_58 rfl (lv_at hl 2 rfl) ?_
            refine W.lcmp hx hb dX2_highest_59 (i_topc (fun z12 ez12 mz12 iz12 => ?_))
            refine lv_if_le (tgt := 80) hx hb dX2_highest_60 (by decide) (fun c13 => ?_) (fun c13 => ?_)
            · have c14 : z12.toInt ≤ 0 := Int32.le_iff_toInt_le.mp c13
              have i15 : iv z12 (-1) 0 := iv_El c14 iz12 (iv_k (x := 0) (k := 0) rfl) (by decide)
              refine i_inc hx hb dX2_highest_80 hl (k := 6) rfl i5 rfl (lo := (-59)) (hi := 70) (by decide) (by decide) (lv' := fun v => [(7, .int v), (0, .ref u0), (1, .int u1), (2, .long v38_2), (4, .int v38_4), (5, .int v38_5), (6, .int v17_6)]) (fun _ => rfl) (fun z18 ls ez18 mz18 iz18 hl => ?_)
              refine lv_goto (tgt := 38) hx hb dX2_highest_83 (by decide) ?_
              exact ih38 ls f_38 H locs v38_2 v38_4 v38_5 z18 (show 70 - z18.toInt < _ by omega) (lv_cons hl 1 rfl (lv_cons hl 2 rfl (lv_cons hl 3 rfl (lv_cons hl 4 rfl (lv_cons hl 5 rfl (lv_cons hl 6 rfl (lv_cons hl 0 rfl (lv_nil hl)))))))) h t_38 o_38 iv38_4 iv38_5 jv38_6 (iv_w iz18 (by decide)) k38_u0_3 k38_u0_2 k38_u0_9 k38_u0_10 k38_rq_0 k38_rq_1 k38_rq_2 k38_rq_3 k38_mq_0 k38_mq_1 k38_mq_2 k38_mq_3
            · have c16 : 0 < z12.toInt := Int32.lt_iff_toInt_lt.mp (iv_nle c13)
              have i17 : iv z12 1 1 := iv_Lr c16 (iv_k (x := 0) (k := 0) rfl) iz12 (by decide)
              refine lv_aload_n hx hb dX2_highest_63 rfl (lv_at hl 0 rfl) ?_
              refine lv_iload hx hb dX2_highest_64 (lv_at hl 5 rfl) ?_
              refine lv_iload hx hb dX2_highest_66 (lv_at hl 6 rfl) ?_
              have gj19 : GJ τ f_38 u0 rq mq := ⟨sx, sy, rl, rb, rr, rt, ml, mb, mr, mt, ⟨trq, tmq⟩, ⟨k38_u0_3, k38_u0_2, k38_u0_9, k38_u0_10⟩, ⟨k38_rq_0, k38_rq_1, k38_rq_2, k38_rq_3⟩, ⟨k38_mq_0, k38_mq_1, k38_mq_2, k38_mq_3⟩, ⟨isx, isy, irl, irb, irr, irt, iml, imb, imr, imt⟩, ⟨by omega, by omega, by omega, by omega⟩, ⟨by omega, by omega, by omega, by omega⟩⟩
              obtain ⟨_, r20⟩ := t_rec t_38 hu0 (by decide) wf_20
              refine k_l (r_V C h hl (As := [.int v17_6, .int v38_7]) (rest := []) (s_X2_seen l D G b0 τ f_38 t_38 u0 hu0 v17_6 (iv_w jv38_6 (by decide)) v38_7 (iv_w i5 (by decide)) rq mq gj19) r20 (Cn := RX2) (T := TX2) (N := 11) rfl rfl mk_X2_seen w_744 w_710 w_711 w_712 ⟨Nat.le_of_ble_eq_true rfl, Nat.le_of_ble_eq_true rfl⟩ rfl (Nat.le_of_ble_eq_true rfl) ⟨Nat.le_of_ble_eq_true rfl, Nat.le_of_ble_eq_true rfl⟩ rfl dX2_highest_68) h (fun r21 f22 H locs p23 h => ?_)
              obtain ⟨tf22, ogf22⟩ := p23
              have egf22 := Fr.nil2 ogf22
              subst egf22
              refine lv_lstore_n (lv' := [(2, .long r21), (0, .ref u0), (1, .int u1), (4, .int v38_4), (5, .int v38_5), (6, .int v17_6), (7, .int v38_7)]) hx hb dX2_highest_71 rfl hl (by decide) rfl (fun ls hl => ?_)
              refine lv_iload hx hb dX2_highest_72 (lv_at hl 5 rfl) ?_
              refine lv_istore (lv' := [(4, .int v17_6), (2, .long r21), (0, .ref u0), (1, .int u1), (5, .int v38_5), (6, .int v17_6), (7, .int v38_7)]) hx hb dX2_highest_74 hl (by decide) rfl (fun ls hl => ?_)
              refine lv_iload hx hb dX2_highest_76 (lv_at hl 6 rfl) ?_
              refine lv_istore (lv' := [(5, .int v38_7), (4, .int v17_6), (2, .long r21), (0, .ref u0), (1, .int u1), (6, .int v17_6), (7, .int v38_7)]) hx hb dX2_highest_78 hl (by decide) rfl (fun ls hl => ?_)
              refine i_inc hx hb dX2_highest_80 hl (k := 6) rfl i5 rfl (lo := (-59)) (hi := 70) (by decide) (by decide) (lv' := fun v => [(7, .int v), (5, .int v38_7), (4, .int v17_6), (2, .long r21), (0, .ref u0), (1, .int u1), (6, .int v17_6)]) (fun _ => rfl) (fun z24 ls ez24 mz24 iz24 hl => ?_)
              refine lv_goto (tgt := 38) hx hb dX2_highest_83 (by decide) ?_
              exact ih38 ls f_38 H locs r21 v17_6 v38_7 z24 (show 70 - z24.toInt < _ by omega) (lv_cons hl 4 rfl (lv_cons hl 5 rfl (lv_cons hl 3 rfl (lv_cons hl 2 rfl (lv_cons hl 1 rfl (lv_cons hl 6 rfl (lv_cons hl 0 rfl (lv_nil hl)))))))) h t_38 o_38 jv38_6 i5 jv38_6 (iv_w iz24 (by decide)) k38_u0_3 k38_u0_2 k38_u0_9 k38_u0_10 k38_rq_0 k38_rq_1 k38_rq_2 k38_rq_3 k38_mq_0 k38_mq_1 k38_mq_2 k38_mq_3
      refine lv_iload hx hb dX2_highest_17 (lv_at hl 5 rfl) ?_
      refine lv_aload_n hx hb dX2_highest_19 rfl (lv_at hl 0 rfl) ?_
      refine t_getfd C h t_17 hu0 (by decide) wf_20 (v := .ref rq) k17_u0_3 fl_X2_25 dX2_highest_20 ?_
      refine t_getfd C h t_17 trq (by decide) wf_23 (v := .int rr) k17_rq_2 fl_X2_66 dX2_highest_23 ?_
      refine lv_icmp_gt (tgt := 92) hx hb dX2_highest_26 (by decide) (fun c25 => ?_) (fun c25 => ?_)
      · have c26 : rr.toInt < v17_6.toInt := Int32.lt_iff_toInt_lt.mp c25
        have i27 : iv v17_6 (-59) 70 := iv_Lr c26 irr iv17_6 (by decide)
        refine lv_lload_n hx hb dX2_highest_92 rfl (lv_at hl 2 rfl) ?_
        refine lv_lconst (v := 0) hx hb dX2_highest_93 (by decide) ?_
        refine W.lcmp hx hb dX2_highest_94 (i_topc (fun z30 ez30 mz30 iz30 => ?_))
        refine lv_if_ne (tgt := 101) hx hb dX2_highest_95 (by decide) (fun c31 => ?_) (fun c31 => ?_)
        · have c32 : z30.toInt ≠ 0 := fun z_ => c31 (Int32.toInt_inj.mp z_)
          refine lv_iload_n hx hb dX2_highest_101 rfl (lv_at hl 1 rfl) ?_
          refine lv_if_ne (tgt := 108) hx hb dX2_highest_102 (by decide) (fun c35 => ?_) (fun c35 => ?_)
          · have c36 : u1.toInt ≠ 0 := fun z_ => c35 (Int32.toInt_inj.mp z_)
            refine lv_iload_n hx hb dX2_highest_108 rfl (lv_at hl 1 rfl) ?_
            refine lv_iconst (v := 1) hx hb dX2_highest_109 (by decide) ?_
            refine lv_icmp_ne (tgt := 118) hx hb dX2_highest_110 (by decide) (fun c39 => ?_) (fun c39 => ?_)
            · have c40 : u1.toInt ≠ 1 := fun z_ => c39 (Int32.toInt_inj.mp z_)
              refine lv_lload_n hx hb dX2_highest_118 rfl (lv_at hl 2 rfl) ?_
              refine lv_l2i hx hb dX2_highest_119 rfl (i_top (iv_any _) (fun z43 ez43 iz43 => ?_))
              exact u_iret C h hr hQ (⟨iz43, t_17, o_17⟩) (Nat.le_of_ble_eq_true rfl) (Nat.le_of_ble_eq_true rfl) dX2_highest_120
            · have c41 : u1.toInt = 1 := congrArg Int32.toInt c39
              have i42 : iv u1 1 1 := iv_Q c41 hu1 (iv_k (x := 1) (k := 1) rfl) (by decide)
              refine lv_iload hx hb dX2_highest_113 (lv_at hl 4 rfl) ?_
              refine lv_goto (tgt := 120) hx hb dX2_highest_115 (by decide) ?_
              exact u_iret C h hr hQ (⟨(iv_w iv17_5 (by decide)), t_17, o_17⟩) (Nat.le_of_ble_eq_true rfl) (Nat.le_of_ble_eq_true rfl) dX2_highest_120
          · have c37 : u1.toInt = 0 := congrArg Int32.toInt c35
            have i38 : iv u1 0 0 := iv_Q c37 hu1 (iv_k (x := 0) (k := 0) rfl) (by decide)
            refine lv_iload hx hb dX2_highest_105 (lv_at hl 3 rfl) ?_
            exact u_iret C h hr hQ (⟨(iv_w iv17_4 (by decide)), t_17, o_17⟩) (Nat.le_of_ble_eq_true rfl) (Nat.le_of_ble_eq_true rfl) dX2_highest_107
        · have c33 : z30.toInt = 0 := congrArg Int32.toInt c31
          have i34 : iv z30 0 0 := iv_Q c33 iz30 (iv_k (x := 0) (k := 0) rfl) (by decide)
          refine lv_ldc (v := -1000000) hx hb hown (hts _ w_904) dX2_highest_98 ?_
          exact u_iret C h hr hQ (⟨⟨by decide, by decide⟩, t_17, o_17⟩) (Nat.le_of_ble_eq_true rfl) (Nat.le_of_ble_eq_true rfl) dX2_highest_100
      · have c28 : v17_6.toInt ≤ rr.toInt := Int32.le_iff_toInt_le.mp (iv_nlt c25)
        have i29 : iv v17_6 (-60) 69 := iv_El c28 iv17_6 irr (by decide)
        refine lv_aload_n hx hb dX2_highest_29 rfl (lv_at hl 0 rfl) ?_
        refine t_getfd C h t_17 hu0 (by decide) wf_20 (v := .ref rq) k17_u0_3 fl_X2_25 dX2_highest_30 ?_
        refine t_getfd C h t_17 trq (by decide) wf_23 (v := .int rb) k17_rq_1 fl_X2_63 dX2_highest_33 ?_
        refine lv_istore (lv' := [(7, .int rb), (0, .ref u0), (1, .int u1), (2, .long v17_2), (4, .int v17_4), (5, .int v17_5), (6, .int v17_6)]) hx hb dX2_highest_36 hl (by decide) rfl (fun ls hl => ?_)
        exact L38 131 ls f_17 H locs v17_2 v17_4 v17_5 rb (show 70 - rb.toInt < _ by omega) (lv_cons hl 1 rfl (lv_cons hl 2 rfl (lv_cons hl 3 rfl (lv_cons hl 4 rfl (lv_cons hl 5 rfl (lv_cons hl 6 rfl (lv_cons hl 0 rfl (lv_nil hl)))))))) h t_17 o_17 iv17_4 iv17_5 i29 (iv_w irb (by decide)) k17_u0_3 k17_u0_2 k17_u0_9 k17_u0_10 k17_rq_0 k17_rq_1 k17_rq_2 k17_rq_3 k17_mq_0 k17_mq_1 k17_mq_2 k17_mq_3
  refine lv_lconst (v := 0) hx hb dX2_highest_0 (by decide) ?_
  refine lv_lstore_n (lv' := [(2, .long 0), (0, .ref u0), (1, .int u1)]) hx hb dX2_highest_1 rfl hl (by decide) rfl (fun ls hl => ?_)
  refine lv_iconst (v := 0) hx hb dX2_highest_2 (by decide) ?_
  refine lv_istore (lv' := [(4, .int 0), (2, .long 0), (0, .ref u0), (1, .int u1)]) hx hb dX2_highest_3 hl (by decide) rfl (fun ls hl => ?_)
  refine lv_iconst (v := 0) hx hb dX2_highest_5 (by decide) ?_
  refine lv_istore (lv' := [(5, .int 0), (4, .int 0), (2, .long 0), (0, .ref u0), (1, .int u1)]) hx hb dX2_highest_6 hl (by decide) rfl (fun ls hl => ?_)
  refine lv_aload_n hx hb dX2_highest_8 rfl (lv_at hl 3 rfl) ?_
  refine t_getfd C h t hu0 (by decide) wf_20 (v := .ref rq) kg3 fl_X2_25 dX2_highest_9 ?_
  refine t_getfd C h t trq (by decide) wf_23 (v := .int rl) krl fl_X2_60 dX2_highest_12 ?_
  refine lv_istore (lv' := [(6, .int rl), (5, .int 0), (4, .int 0), (2, .long 0), (0, .ref u0), (1, .int u1)]) hx hb dX2_highest_15 hl (by decide) rfl (fun ls hl => ?_)
  exact L17 131 ls f s.heap [] 0 0 0 rl (show 70 - rl.toInt < _ by omega) (lv_cons hl 4 rfl (lv_cons hl 5 rfl (lv_cons hl 3 rfl (lv_cons hl 2 rfl (lv_cons hl 1 rfl (lv_cons hl 0 rfl (lv_nil hl))))))) h t o ⟨by decide, by decide⟩ ⟨by decide, by decide⟩ (iv_w irl (by decide)) kg3 kg2 ksx ksy krl krb krr krt kml kmb kmr kmt
abbrev rm_s_X2_filledCells : Room := { frames := 2, cells := 0, slots := 0, locals := 44 }
set_option maxRecDepth 100000 in
set_option maxHeartbeats 4000000 in
theorem s_X2_filledCells (l : Launch) (D : va_G) (G : Nat → Nat) (b0 : Nat) (τ : Nat → Nat) (f : hM) (t : TI G 9 τ f) (u0 : Nat) (hu0 : τ u0 = 20) (rq mq : Nat) (hGJ : GJ τ f u0 rq mq) : mI l yX2_filledCells cX2_filledCells 4 (.int) rm_s_X2_filledCells D G b0 f [.ref u0] (fun r f1 => iv r (-2147483648) 2147483647 ∧ TI G 9 τ f1 ∧ Fr [] τ f f1) := by
  refine met2 (own := RX2) (by decide) rfl (Nat.le_of_ble_eq_true rfl) ?_
  intro p e s m args below meth c ls Q hQ C hr hini hl h
  have hl : lv_has ls 4 [(0, .ref u0)] := hl
  obtain ⟨hx, hb, hml, hown, hts, hE0, hlk⟩ := id C
  have o := Fr.rf [] τ f
  obtain ⟨sx, sy, rl, rb, rr, rt, ml, mb, mr, mt, ⟨trq, tmq⟩, ⟨kg3, kg2, ksx, ksy⟩, ⟨krl, krb, krr, krt⟩, ⟨kml, kmb, kmr, kmt⟩, ⟨isx, isy, irl, irb, irr, irt, iml, imb, imr, imt⟩, ⟨gr1, gr2, gr3, gr4⟩, ⟨gr5, gr6, gr7, gr8⟩⟩ := hGJ
  have L10 : ∀ (n10 : Nat) (ls : Array Slot) (f_10 : hM) (H : Heap) (locs : List Loc) (v10_1 : Int32) (v10_2 : Int32), 70 - v10_2.toInt < (n10 : Int) → lv_has ls 4 [(0, .ref u0), (1, .int v10_1), (2, .int v10_2)] → hw D b0 s.heap f_10 H locs → TI G 9 τ f_10 → Fr [] τ f f_10 → iv v10_1 (-2147483648) 2147483647 → iv v10_2 (-60) 70 → atp f_10 u0 (fd 3 (.ref rq)) → atp f_10 u0 (fd 2 (.ref mq)) → atp f_10 u0 (fd 9 (.int sx)) → atp f_10 u0 (fd 10 (.int sy)) → atp f_10 rq (fd 0 (.int rl)) → atp f_10 rq (fd 1 (.int rb)) → atp f_10 rq (fd 2 (.int rr)) → atp f_10 rq (fd 3 (.int rt)) → atp f_10 mq (fd 0 (.int ml)) → atp f_10 mq (fd 1 (.int mb)) → atp f_10 mq (fd 2 (.int mr)) → atp f_10 mq (fd 3 (.int mt)) → W p l e rm_s_X2_filledCells s m args below meth c H locs 0 0 Q (F0 m 10 ls []) := by
    intro n10
    induction n10 with
    | zero => intro ls f_10 H locs v10_1 v10_2 hm10 hl h t_10 o_10 iv10_1 iv10_2 k10_u0_3 k10_u0_2 k10_u0_9 k10_u0_10 k10_rq_0 k10_rq_1 k10_rq_2 k10_rq_3 k10_mq_0 k10_mq_1 k10_mq_2 k10_mq_3; exact absurd hm10 (by omega)
    | succ n10 ih10 =>
      intro ls f_10 H locs v10_1 v10_2 hm10 hl h t_10 o_10 iv10_1 iv10_2 k10_u0_3 k10_u0_2 k10_u0_9 k10_u0_10 k10_rq_0 k10_rq_1 k10_rq_2 k10_rq_3 k10_mq_0 k10_mq_1 k10_mq_2 k10_mq_3
      have L29 : ∀ (n29 : Nat) (ls : Array Slot) (f_29 : hM) (H : Heap) (locs : List Loc) (v29_1 : Int32) (v29_3 : Int32), 70 - v29_3.toInt < (n29 : Int) → lv_has ls 4 [(0, .ref u0), (1, .int v29_1), (2, .int v10_2), (3, .int v29_3)] → hw D b0 s.heap f_29 H locs → TI G 9 τ f_29 → Fr [] τ f f_29 → iv v29_1 (-2147483648) 2147483647 → iv v10_2 (-60) 69 → iv v29_3 (-60) 70 → atp f_29 u0 (fd 3 (.ref rq)) → atp f_29 u0 (fd 2 (.ref mq)) → atp f_29 u0 (fd 9 (.int sx)) → atp f_29 u0 (fd 10 (.int sy)) → atp f_29 rq (fd 0 (.int rl)) → atp f_29 rq (fd 1 (.int rb)) → atp f_29 rq (fd 2 (.int rr)) → atp f_29 rq (fd 3 (.int rt)) → atp f_29 mq (fd 0 (.int ml)) → atp f_29 mq (fd 1 (.int mb)) → atp f_29 mq (fd 2 (.int mr)) → atp f_29 mq (fd 3 (.int mt)) → W p l e rm_s_X2_filledCells s m args below meth c H locs 0 0 Q (F0 m 29 ls []) := by
        intro n29
        induction n29 with
        | zero => intro ls f_29 H locs v29_1 v29_3 hm29 hl h t_29 o_29 iv29_1 jv29_2 iv29_3 k29_u0_3 k29_u0_2 k29_u0_9 k29_u0_10 k29_rq_0 k29_rq_1 k29_rq_2 k29_rq_3 k29_mq_0 k29_mq_1 k29_mq_2 k29_mq_3; exact absurd hm29 (by omega)
        | succ n29 ih29 =>
          intro ls f_29 H locs v29_1 v29_3 hm29 hl h t_29 o_29 iv29_1 jv29_2 iv29_3 k29_u0_3 k29_u0_2 k29_u0_9 k29_u0_10 k29_rq_0 k29_rq_1 k29_rq_2 k29_rq_3 k29_mq_0 k29_mq_1 k29_mq_2 k29_mq_3
          refine lv_iload_n hx hb dX2_filledCells_29 rfl (lv_at hl 3 rfl) ?_
          refine lv_aload_n hx hb dX2_filledCells_30 rfl (lv_at hl 0 rfl) ?_
          refine t_getfd C h t_29 hu0 (by decide) wf_20 (v := .ref rq) k29_u0_3 fl_X2_25 dX2_filledCells_31 ?_
          refine t_getfd C h t_29 trq (by decide) wf_23 (v := .int rt) k29_rq_3 fl_X2_69 dX2_filledCells_34 ?_
          refine lv_icmp_gt (tgt := 60) hx hb dX2_filledCells_37 (by decide) (fun c1 => ?_) (fun c1 => ?_)
          · have c2 : rt.toInt < v29_3.toInt := Int32.lt_iff_toInt_lt.mp c1
            have i3 : iv v29_3 (-59) 70 := iv_Lr c2 irt iv29_3 (by decide)
            refine i_inc hx hb dX2_filledCells_60 hl (k := 2) rfl jv29_2 rfl (lo := (-59)) (hi := 70) (by decide) (by decide) (lv' := fun v => [(2, .int v), (0, .ref u0), (1, .int v29_1), (3, .int v29_3)]) (fun _ => rfl) (fun z6 ls ez6 mz6 iz6 hl => ?_)
            refine lv_goto (tgt := 10) hx hb dX2_filledCells_63 (by decide) ?_
            exact ih10 ls f_29 H locs v29_1 z6 (show 70 - z6.toInt < _ by omega) (lv_cons hl 1 rfl (lv_cons hl 2 rfl (lv_cons hl 0 rfl (lv_nil hl)))) h t_29 o_29 iv29_1 (iv_w iz6 (by decide)) k29_u0_3 k29_u0_2 k29_u0_9 k29_u0_10 k29_rq_0 k29_rq_1 k29_rq_2 k29_rq_3 k29_mq_0 k29_mq_1 k29_mq_2 k29_mq_3
          · have c4 : v29_3.toInt ≤ rt.toInt := Int32.le_iff_toInt_le.mp (iv_nlt c1)
            have i5 : iv v29_3 (-60) 69 := iv_El c4 iv29_3 irt (by decide)
            refine lv_aload_n hx hb dX2_filledCells_40 rfl (lv_at hl 0 rfl) ?_
            refine lv_iload_n hx hb dX2_filledCells_41 rfl (lv_at hl 2 rfl) ?_
            refine lv_iload_n hx hb dX2_filledCells_42 rfl (lv_at hl 3 rfl) ?_
            have gj7 : GJ τ f_29 u0 rq mq := ⟨sx, sy, rl, rb, rr, rt, ml, mb, mr, mt, ⟨trq, tmq⟩, ⟨k29_u0_3, k29_u0_2, k29_u0_9, k29_u0_10⟩, ⟨k29_rq_0, k29_rq_1, k29_rq_2, k29_rq_3⟩, ⟨k29_mq_0, k29_mq_1, k29_mq_2, k29_mq_3⟩, ⟨isx, isy, irl, irb, irr, irt, iml, imb, imr, imt⟩, ⟨by omega, by omega, by omega, by omega⟩, ⟨by omega, by omega, by omega, by omega⟩⟩
            obtain ⟨_, r8⟩ := t_rec t_29 hu0 (by decide) wf_20
            refine k_l (r_V C h hl (As := [.int v10_2, .int v29_3]) (rest := []) (s_X2_seen l D G b0 τ f_29 t_29 u0 hu0 v10_2 (iv_w jv29_2 (by decide)) v29_3 (iv_w i5 (by decide)) rq mq gj7) r8 (Cn := RX2) (T := TX2) (N := 11) rfl rfl mk_X2_seen w_744 w_710 w_711 w_712 ⟨Nat.le_of_ble_eq_true rfl, Nat.le_of_ble_eq_true rfl⟩ rfl (Nat.le_of_ble_eq_true rfl) ⟨Nat.le_of_ble_eq_true rfl, Nat.le_of_ble_eq_true rfl⟩ rfl dX2_filledCells_43) h (fun r9 f10 H locs p11 h => ?_)
            obtain ⟨tf10, ogf10⟩ := p11
            have egf10 := Fr.nil2 ogf10
            subst egf10
            refine lv_lconst (v := 0) hx hb dX2_filledCells_46 (by decide) ?_
            refine W.lcmp hx hb dX2_filledCells_47 (i_topc (fun z12 ez12 mz12 iz12 => ?_))
            refine lv_if_eq (tgt := 54) hx hb dX2_filledCells_48 (by decide) (fun c13 => ?_) (fun c13 => ?_)
            · have c14 : z12.toInt = 0 := congrArg Int32.toInt c13
              have i15 : iv z12 0 0 := iv_Q c14 iz12 (iv_k (x := 0) (k := 0) rfl) (by decide)
              refine i_inc hx hb dX2_filledCells_54 hl (k := 3) rfl i5 rfl (lo := (-59)) (hi := 70) (by decide) (by decide) (lv' := fun v => [(3, .int v), (0, .ref u0), (1, .int v29_1), (2, .int v10_2)]) (fun _ => rfl) (fun z17 ls ez17 mz17 iz17 hl => ?_)
              refine lv_goto (tgt := 29) hx hb dX2_filledCells_57 (by decide) ?_
              exact ih29 ls f_29 H locs v29_1 z17 (show 70 - z17.toInt < _ by omega) (lv_cons hl 1 rfl (lv_cons hl 2 rfl (lv_cons hl 3 rfl (lv_cons hl 0 rfl (lv_nil hl))))) h t_29 o_29 iv29_1 jv29_2 (iv_w iz17 (by decide)) k29_u0_3 k29_u0_2 k29_u0_9 k29_u0_10 k29_rq_0 k29_rq_1 k29_rq_2 k29_rq_3 k29_mq_0 k29_mq_1 k29_mq_2 k29_mq_3
            · have c16 : z12.toInt ≠ 0 := fun z_ => c13 (Int32.toInt_inj.mp z_)
              refine i_incA hx hb dX2_filledCells_51 hl (k := 1) rfl (by decide) (lv' := fun v => [(1, .int v), (0, .ref u0), (2, .int v10_2), (3, .int v29_3)]) (fun _ => rfl) (fun z18 ls ez18 iz18 hl => ?_)
              refine i_inc hx hb dX2_filledCells_54 hl (k := 3) rfl i5 rfl (lo := (-59)) (hi := 70) (by decide) (by decide) (lv' := fun v => [(3, .int v), (1, .int z18), (0, .ref u0), (2, .int v10_2)]) (fun _ => rfl) (fun z19 ls ez19 mz19 iz19 hl => ?_)
              refine lv_goto (tgt := 29) hx hb dX2_filledCells_57 (by decide) ?_
              exact ih29 ls f_29 H locs z18 z19 (show 70 - z19.toInt < _ by omega) (lv_cons hl 2 rfl (lv_cons hl 1 rfl (lv_cons hl 3 rfl (lv_cons hl 0 rfl (lv_nil hl))))) h t_29 o_29 iz18 jv29_2 (iv_w iz19 (by decide)) k29_u0_3 k29_u0_2 k29_u0_9 k29_u0_10 k29_rq_0 k29_rq_1 k29_rq_2 k29_rq_3 k29_mq_0 k29_mq_1 k29_mq_2 k29_mq_3
      refine lv_iload_n hx hb dX2_filledCells_10 rfl (lv_at hl 2 rfl) ?_
      refine lv_aload_n hx hb dX2_filledCells_11 rfl (lv_at hl 0 rfl) ?_
      refine t_getfd C h t_10 hu0 (by decide) wf_20 (v := .ref rq) k10_u0_3 fl_X2_25 dX2_filledCells_12 ?_
      refine t_getfd C h t_10 trq (by decide) wf_23 (v := .int rr) k10_rq_2 fl_X2_66 dX2_filledCells_15 ?_
      refine lv_icmp_gt (tgt := 66) hx hb dX2_filledCells_18 (by decide) (fun c20 => ?_) (fun c20 => ?_)
      · have c21 : rr.toInt < v10_2.toInt := Int32.lt_iff_toInt_lt.mp c20
        have i22 : iv v10_2 (-59) 70 := iv_Lr c21 irr iv10_2 (by decide)
        refine lv_iload_n hx hb dX2_filledCells_66 rfl (lv_at hl 1 rfl) ?_
        exact u_iret C h hr hQ (⟨iv10_1, t_10, o_10⟩) (Nat.le_of_ble_eq_true rfl) (Nat.le_of_ble_eq_true rfl) dX2_filledCells_67
      · have c23 : v10_2.toInt ≤ rr.toInt := Int32.le_iff_toInt_le.mp (iv_nlt c20)
        have i24 : iv v10_2 (-60) 69 := iv_El c23 iv10_2 irr (by decide)
        refine lv_aload_n hx hb dX2_filledCells_21 rfl (lv_at hl 0 rfl) ?_
        refine t_getfd C h t_10 hu0 (by decide) wf_20 (v := .ref rq) k10_u0_3 fl_X2_25 dX2_filledCells_22 ?_
        refine t_getfd C h t_10 trq (by decide) wf_23 (v := .int rb) k10_rq_1 fl_X2_63 dX2_filledCells_25 ?_
        refine lv_istore_n (lv' := [(3, .int rb), (0, .ref u0), (1, .int v10_1), (2, .int v10_2)]) hx hb dX2_filledCells_28 rfl hl (by decide) rfl (fun ls hl => ?_)
        exact L29 131 ls f_10 H locs v10_1 rb (show 70 - rb.toInt < _ by omega) (lv_cons hl 1 rfl (lv_cons hl 2 rfl (lv_cons hl 3 rfl (lv_cons hl 0 rfl (lv_nil hl))))) h t_10 o_10 iv10_1 i24 (iv_w irb (by decide)) k10_u0_3 k10_u0_2 k10_u0_9 k10_u0_10 k10_rq_0 k10_rq_1 k10_rq_2 k10_rq_3 k10_mq_0 k10_mq_1 k10_mq_2 k10_mq_3
  refine lv_iconst (v := 0) hx hb dX2_filledCells_0 (by decide) ?_
  refine lv_istore_n (lv' := [(1, .int 0), (0, .ref u0)]) hx hb dX2_filledCells_1 rfl hl (by decide) rfl (fun ls hl => ?_)
  refine lv_aload_n hx hb dX2_filledCells_2 rfl (lv_at hl 1 rfl) ?_
  refine t_getfd C h t hu0 (by decide) wf_20 (v := .ref rq) kg3 fl_X2_25 dX2_filledCells_3 ?_
  refine t_getfd C h t trq (by decide) wf_23 (v := .int rl) krl fl_X2_60 dX2_filledCells_6 ?_
  refine lv_istore_n (lv' := [(2, .int rl), (1, .int 0), (0, .ref u0)]) hx hb dX2_filledCells_9 rfl hl (by decide) rfl (fun ls hl => ?_)
  exact L10 131 ls f s.heap [] 0 rl (show 70 - rl.toInt < _ by omega) (lv_cons hl 2 rfl (lv_cons hl 1 rfl (lv_cons hl 0 rfl (lv_nil hl)))) h t o ⟨by decide, by decide⟩ (iv_w irl (by decide)) kg3 kg2 ksx ksy krl krb krr krt kml kmb kmr kmt
abbrev rm_s_X2_stepsInside : Room := { frames := 0, cells := 0, slots := 0, locals := 0 }
set_option maxRecDepth 100000 in
set_option maxHeartbeats 4000000 in
theorem s_X2_stepsInside (l : Launch) (D : va_G) (G : Nat → Nat) (b0 : Nat) (τ : Nat → Nat) (f : hM) (t : TI G 9 τ f) (u0 : Int32) (hu0 : iv u0 (-2147483648) 2147483647) (u1 : Int32) (hu1 : iv u1 (-2147483648) 2147483647) : mI l yX2_stepsInside cX2_stepsInside 4 (.int) rm_s_X2_stepsInside D G b0 f [.int u0, .int u1] (fun r f1 => iv r (-2147483648) 2147483647 ∧ TI G 9 τ f1 ∧ Fr [] τ f f1) := by
  refine met2 (own := RX2) (by decide) rfl (Nat.le_of_ble_eq_true rfl) ?_
  intro p e s m args below meth c ls Q hQ C hr hini hl h
  have hl : lv_has ls 4 [(0, .int u0), (1, .int u1)] := hl
  obtain ⟨hx, hb, hml, hown, hts, hE0, hlk⟩ := id C
  have o := Fr.rf [] τ f
  have L4 : ∀ (n4 : Nat) (ls : Array Slot) (f_4 : hM) (H : Heap) (locs : List Loc) (v4_2 : Int32) (v4_3 : Int32), 8 - v4_3.toInt < (n4 : Int) → lv_has ls 4 [(0, .int u0), (1, .int u1), (2, .int v4_2), (3, .int v4_3)] → hw D b0 s.heap f_4 H locs → TI G 9 τ f_4 → Fr [] τ f f_4 → iv v4_2 (-2147483648) 2147483647 → iv v4_3 0 8 → W p l e rm_s_X2_stepsInside s m args below meth c H locs 0 0 Q (F0 m 4 ls []) := by
    intro n4
    induction n4 with
    | zero => intro ls f_4 H locs v4_2 v4_3 hm4 hl h t_4 o_4 iv4_2 iv4_3; exact absurd hm4 (by omega)
    | succ n4 ih4 =>
      intro ls f_4 H locs v4_2 v4_3 hm4 hl h t_4 o_4 iv4_2 iv4_3
      refine lv_iload_n hx hb dX2_stepsInside_4 rfl (lv_at hl 3 rfl) ?_
      refine lv_bipush (v := 8) hx hb dX2_stepsInside_5 (by decide) ?_
      refine lv_icmp_ge (tgt := 42) hx hb dX2_stepsInside_7 (by decide) (fun c1 => ?_) (fun c1 => ?_)
      · have c2 : 8 ≤ v4_3.toInt := Int32.le_iff_toInt_le.mp c1
        have i3 : iv v4_3 8 8 := iv_Er c2 (iv_k (x := 8) (k := 8) rfl) iv4_3 (by decide)
        refine lv_iload_n hx hb dX2_stepsInside_42 rfl (lv_at hl 2 rfl) ?_
        exact u_iret C h hr hQ (⟨iv4_2, t_4, o_4⟩) (Nat.le_of_ble_eq_true rfl) (Nat.le_of_ble_eq_true rfl) dX2_stepsInside_43
      · have c4 : v4_3.toInt < 8 := Int32.lt_iff_toInt_lt.mp (iv_nle c1)
        have i5 : iv v4_3 0 7 := iv_Ll c4 iv4_3 (iv_k (x := 8) (k := 8) rfl) (by decide)
        refine lv_iload_n hx hb dX2_stepsInside_10 rfl (lv_at hl 0 rfl) ?_
        refine st_getN C h (i := 0) (by decide) (by decide) dX2_stepsInside_11 ?_
        refine lv_iload_n hx hb dX2_stepsInside_14 rfl (lv_at hl 3 rfl) ?_
        refine st_ald C h (k := 0) (by decide) st_b0 (iv_in i5 (by decide)) dX2_stepsInside_15 (fun z6 ez6 iz6 => ?_)
        refine lv_iadd hx hb dX2_stepsInside_16 (i_top (iv_any _) (fun z7 ez7 iz7 => ?_))
        refine lv_if_lt (tgt := 36) hx hb dX2_stepsInside_17 (by decide) (fun c8 => ?_) (fun c8 => ?_)
        · have c9 : z7.toInt < 0 := Int32.lt_iff_toInt_lt.mp c8
          have i10 : iv z7 (-2147483648) (-1) := iv_Ll c9 iz7 (iv_k (x := 0) (k := 0) rfl) (by decide)
          refine i_inc hx hb dX2_stepsInside_36 hl (k := 3) rfl i5 rfl (lo := 1) (hi := 8) (by decide) (by decide) (lv' := fun v => [(3, .int v), (0, .int u0), (1, .int u1), (2, .int v4_2)]) (fun _ => rfl) (fun z13 ls ez13 mz13 iz13 hl => ?_)
          refine lv_goto (tgt := 4) hx hb dX2_stepsInside_39 (by decide) ?_
          exact ih4 ls f_4 H locs v4_2 z13 (show 8 - z13.toInt < _ by omega) (lv_cons hl 1 rfl (lv_cons hl 2 rfl (lv_cons hl 3 rfl (lv_cons hl 0 rfl (lv_nil hl))))) h t_4 o_4 iv4_2 (iv_w iz13 (by decide))
        · have c11 : 0 ≤ z7.toInt := Int32.le_iff_toInt_le.mp (iv_nlt c8)
          have i12 : iv z7 0 2147483647 := iv_Er c11 (iv_k (x := 0) (k := 0) rfl) iz7 (by decide)
          refine lv_iload_n hx hb dX2_stepsInside_20 rfl (lv_at hl 1 rfl) ?_
          refine st_getN C h (i := 1) (by decide) (by decide) dX2_stepsInside_21 ?_
          refine lv_iload_n hx hb dX2_stepsInside_24 rfl (lv_at hl 3 rfl) ?_
          refine st_ald C h (k := 1) (by decide) st_b1 (iv_in i5 (by decide)) dX2_stepsInside_25 (fun z14 ez14 iz14 => ?_)
          refine lv_iadd hx hb dX2_stepsInside_26 (i_top (iv_any _) (fun z15 ez15 iz15 => ?_))
          refine lv_if_lt (tgt := 36) hx hb dX2_stepsInside_27 (by decide) (fun c16 => ?_) (fun c16 => ?_)
          · have c17 : z15.toInt < 0 := Int32.lt_iff_toInt_lt.mp c16
            have i18 : iv z15 (-2147483648) (-1) := iv_Ll c17 iz15 (iv_k (x := 0) (k := 0) rfl) (by decide)
            refine i_inc hx hb dX2_stepsInside_36 hl (k := 3) rfl i5 rfl (lo := 1) (hi := 8) (by decide) (by decide) (lv' := fun v => [(3, .int v), (0, .int u0), (1, .int u1), (2, .int v4_2)]) (fun _ => rfl) (fun z21 ls ez21 mz21 iz21 hl => ?_)
            refine lv_goto (tgt := 4) hx hb dX2_stepsInside_39 (by decide) ?_
            exact ih4 ls f_4 H locs v4_2 z21 (show 8 - z21.toInt < _ by omega) (lv_cons hl 1 rfl (lv_cons hl 2 rfl (lv_cons hl 3 rfl (lv_cons hl 0 rfl (lv_nil hl))))) h t_4 o_4 iv4_2 (iv_w iz21 (by decide))
          · have c19 : 0 ≤ z15.toInt := Int32.le_iff_toInt_le.mp (iv_nlt c16)
            have i20 : iv z15 0 2147483647 := iv_Er c19 (iv_k (x := 0) (k := 0) rfl) iz15 (by decide)
            refine lv_iload_n hx hb dX2_stepsInside_30 rfl (lv_at hl 2 rfl) ?_
            refine lv_iconst (v := 1) hx hb dX2_stepsInside_31 (by decide) ?_
            refine lv_iload_n hx hb dX2_stepsInside_32 rfl (lv_at hl 3 rfl) ?_
            refine lv_ishl hx hb dX2_stepsInside_33 (i_top (iv_any _) (fun z22 ez22 iz22 => ?_))
            refine lv_ior hx hb dX2_stepsInside_34 (i_top (iv_any _) (fun z23 ez23 iz23 => ?_))
            refine lv_istore_n (lv' := [(2, .int z23), (0, .int u0), (1, .int u1), (3, .int v4_3)]) hx hb dX2_stepsInside_35 rfl hl (by decide) rfl (fun ls hl => ?_)
            refine i_inc hx hb dX2_stepsInside_36 hl (k := 3) rfl i5 rfl (lo := 1) (hi := 8) (by decide) (by decide) (lv' := fun v => [(3, .int v), (2, .int z23), (0, .int u0), (1, .int u1)]) (fun _ => rfl) (fun z24 ls ez24 mz24 iz24 hl => ?_)
            refine lv_goto (tgt := 4) hx hb dX2_stepsInside_39 (by decide) ?_
            exact ih4 ls f_4 H locs z23 z24 (show 8 - z24.toInt < _ by omega) (lv_cons hl 2 rfl (lv_cons hl 3 rfl (lv_cons hl 1 rfl (lv_cons hl 0 rfl (lv_nil hl))))) h t_4 o_4 iz23 (iv_w iz24 (by decide))
  refine lv_iconst (v := 0) hx hb dX2_stepsInside_0 (by decide) ?_
  refine lv_istore_n (lv' := [(2, .int 0), (0, .int u0), (1, .int u1)]) hx hb dX2_stepsInside_1 rfl hl (by decide) rfl (fun ls hl => ?_)
  refine lv_iconst (v := 0) hx hb dX2_stepsInside_2 (by decide) ?_
  refine lv_istore_n (lv' := [(3, .int 0), (2, .int 0), (0, .int u0), (1, .int u1)]) hx hb dX2_stepsInside_3 rfl hl (by decide) rfl (fun ls hl => ?_)
  exact L4 9 ls f s.heap [] 0 0 (by decide) (lv_cons hl 2 rfl (lv_cons hl 3 rfl (lv_cons hl 1 rfl (lv_cons hl 0 rfl (lv_nil hl))))) h t o ⟨by decide, by decide⟩ ⟨by decide, by decide⟩
abbrev rm_s_X2_staying : Room := { frames := 2, cells := 0, slots := 0, locals := 44 }
set_option maxRecDepth 100000 in
set_option maxHeartbeats 4000000 in
theorem s_X2_staying (l : Launch) (D : va_G) (G : Nat → Nat) (b0 : Nat) (τ : Nat → Nat) (f : hM) (t : TI G 9 τ f) (u0 : Nat) (hu0 : τ u0 = 20) (rq mq : Nat) (hGJ : GJ τ f u0 rq mq) : mI l yX2_staying cX2_staying 4 (.int) rm_s_X2_staying D G b0 f [.ref u0] (fun r f1 => iv r (-2147483648) 2147483647 ∧ TI G 9 τ f1 ∧ Fr [] τ f f1) := by
  refine met2 (own := RX2) (by decide) rfl (Nat.le_of_ble_eq_true rfl) ?_
  intro p e s m args below meth c ls Q hQ C hr hini hl h
  have hl : lv_has ls 4 [(0, .ref u0)] := hl
  obtain ⟨hx, hb, hml, hown, hts, hE0, hlk⟩ := id C
  have o := Fr.rf [] τ f
  obtain ⟨sx, sy, rl, rb, rr, rt, ml, mb, mr, mt, ⟨trq, tmq⟩, ⟨kg3, kg2, ksx, ksy⟩, ⟨krl, krb, krr, krt⟩, ⟨kml, kmb, kmr, kmt⟩, ⟨isx, isy, irl, irb, irr, irt, iml, imb, imr, imt⟩, ⟨gr1, gr2, gr3, gr4⟩, ⟨gr5, gr6, gr7, gr8⟩⟩ := hGJ
  have L10 : ∀ (n10 : Nat) (ls : Array Slot) (f_10 : hM) (H : Heap) (locs : List Loc) (v10_1 : Int32) (v10_2 : Int32), 70 - v10_2.toInt < (n10 : Int) → lv_has ls 4 [(0, .ref u0), (1, .int v10_1), (2, .int v10_2)] → hw D b0 s.heap f_10 H locs → TI G 9 τ f_10 → Fr [] τ f f_10 → iv v10_1 (-2147483648) 2147483647 → iv v10_2 (-60) 70 → atp f_10 u0 (fd 3 (.ref rq)) → atp f_10 u0 (fd 2 (.ref mq)) → atp f_10 u0 (fd 9 (.int sx)) → atp f_10 u0 (fd 10 (.int sy)) → atp f_10 rq (fd 0 (.int rl)) → atp f_10 rq (fd 1 (.int rb)) → atp f_10 rq (fd 2 (.int rr)) → atp f_10 rq (fd 3 (.int rt)) → atp f_10 mq (fd 0 (.int ml)) → atp f_10 mq (fd 1 (.int mb)) → atp f_10 mq (fd 2 (.int mr)) → atp f_10 mq (fd 3 (.int mt)) → W p l e rm_s_X2_staying s m args below meth c H locs 0 0 Q (F0 m 10 ls []) := by
    intro n10
    induction n10 with
    | zero => intro ls f_10 H locs v10_1 v10_2 hm10 hl h t_10 o_10 iv10_1 iv10_2 k10_u0_3 k10_u0_2 k10_u0_9 k10_u0_10 k10_rq_0 k10_rq_1 k10_rq_2 k10_rq_3 k10_mq_0 k10_mq_1 k10_mq_2 k10_mq_3; exact absurd hm10 (by omega)
    | succ n10 ih10 =>
      intro ls f_10 H locs v10_1 v10_2 hm10 hl h t_10 o_10 iv10_1 iv10_2 k10_u0_3 k10_u0_2 k10_u0_9 k10_u0_10 k10_rq_0 k10_rq_1 k10_rq_2 k10_rq_3 k10_mq_0 k10_mq_1 k10_mq_2 k10_mq_3
      have L29 : ∀ (n29 : Nat) (ls : Array Slot) (f_29 : hM) (H : Heap) (locs : List Loc) (v29_1 : Int32) (v29_3 : Int32), 70 - v29_3.toInt < (n29 : Int) → lv_has ls 4 [(0, .ref u0), (1, .int v29_1), (2, .int v10_2), (3, .int v29_3)] → hw D b0 s.heap f_29 H locs → TI G 9 τ f_29 → Fr [] τ f f_29 → iv v29_1 (-2147483648) 2147483647 → iv v10_2 (-60) 69 → iv v29_3 (-60) 70 → atp f_29 u0 (fd 3 (.ref rq)) → atp f_29 u0 (fd 2 (.ref mq)) → atp f_29 u0 (fd 9 (.int sx)) → atp f_29 u0 (fd 10 (.int sy)) → atp f_29 rq (fd 0 (.int rl)) → atp f_29 rq (fd 1 (.int rb)) → atp f_29 rq (fd 2 (.int rr)) → atp f_29 rq (fd 3 (.int rt)) → atp f_29 mq (fd 0 (.int ml)) → atp f_29 mq (fd 1 (.int mb)) → atp f_29 mq (fd 2 (.int mr)) → atp f_29 mq (fd 3 (.int mt)) → W p l e rm_s_X2_staying s m args below meth c H locs 0 0 Q (F0 m 29 ls []) := by
        intro n29
        induction n29 with
        | zero => intro ls f_29 H locs v29_1 v29_3 hm29 hl h t_29 o_29 iv29_1 jv29_2 iv29_3 k29_u0_3 k29_u0_2 k29_u0_9 k29_u0_10 k29_rq_0 k29_rq_1 k29_rq_2 k29_rq_3 k29_mq_0 k29_mq_1 k29_mq_2 k29_mq_3; exact absurd hm29 (by omega)
        | succ n29 ih29 =>
          intro ls f_29 H locs v29_1 v29_3 hm29 hl h t_29 o_29 iv29_1 jv29_2 iv29_3 k29_u0_3 k29_u0_2 k29_u0_9 k29_u0_10 k29_rq_0 k29_rq_1 k29_rq_2 k29_rq_3 k29_mq_0 k29_mq_1 k29_mq_2 k29_mq_3
          refine lv_iload_n hx hb dX2_staying_29 rfl (lv_at hl 3 rfl) ?_
          refine lv_aload_n hx hb dX2_staying_30 rfl (lv_at hl 0 rfl) ?_
          refine t_getfd C h t_29 hu0 (by decide) wf_20 (v := .ref rq) k29_u0_3 fl_X2_25 dX2_staying_31 ?_
          refine t_getfd C h t_29 trq (by decide) wf_23 (v := .int rt) k29_rq_3 fl_X2_69 dX2_staying_34 ?_
          refine lv_icmp_gt (tgt := 65) hx hb dX2_staying_37 (by decide) (fun c1 => ?_) (fun c1 => ?_)
          · have c2 : rt.toInt < v29_3.toInt := Int32.lt_iff_toInt_lt.mp c1
            have i3 : iv v29_3 (-59) 70 := iv_Lr c2 irt iv29_3 (by decide)
            refine i_inc hx hb dX2_staying_65 hl (k := 2) rfl jv29_2 rfl (lo := (-59)) (hi := 70) (by decide) (by decide) (lv' := fun v => [(2, .int v), (0, .ref u0), (1, .int v29_1), (3, .int v29_3)]) (fun _ => rfl) (fun z6 ls ez6 mz6 iz6 hl => ?_)
            refine lv_goto (tgt := 10) hx hb dX2_staying_68 (by decide) ?_
            exact ih10 ls f_29 H locs v29_1 z6 (show 70 - z6.toInt < _ by omega) (lv_cons hl 1 rfl (lv_cons hl 2 rfl (lv_cons hl 0 rfl (lv_nil hl)))) h t_29 o_29 iv29_1 (iv_w iz6 (by decide)) k29_u0_3 k29_u0_2 k29_u0_9 k29_u0_10 k29_rq_0 k29_rq_1 k29_rq_2 k29_rq_3 k29_mq_0 k29_mq_1 k29_mq_2 k29_mq_3
          · have c4 : v29_3.toInt ≤ rt.toInt := Int32.le_iff_toInt_le.mp (iv_nlt c1)
            have i5 : iv v29_3 (-60) 69 := iv_El c4 iv29_3 irt (by decide)
            refine lv_aload_n hx hb dX2_staying_40 rfl (lv_at hl 0 rfl) ?_
            refine lv_iload_n hx hb dX2_staying_41 rfl (lv_at hl 2 rfl) ?_
            refine lv_iload_n hx hb dX2_staying_42 rfl (lv_at hl 3 rfl) ?_
            have gj7 : GJ τ f_29 u0 rq mq := ⟨sx, sy, rl, rb, rr, rt, ml, mb, mr, mt, ⟨trq, tmq⟩, ⟨k29_u0_3, k29_u0_2, k29_u0_9, k29_u0_10⟩, ⟨k29_rq_0, k29_rq_1, k29_rq_2, k29_rq_3⟩, ⟨k29_mq_0, k29_mq_1, k29_mq_2, k29_mq_3⟩, ⟨isx, isy, irl, irb, irr, irt, iml, imb, imr, imt⟩, ⟨by omega, by omega, by omega, by omega⟩, ⟨by omega, by omega, by omega, by omega⟩⟩
            obtain ⟨_, r8⟩ := t_rec t_29 hu0 (by decide) wf_20
            refine k_l (r_V C h hl (As := [.int v10_2, .int v29_3]) (rest := []) (s_X2_seen l D G b0 τ f_29 t_29 u0 hu0 v10_2 (iv_w jv29_2 (by decide)) v29_3 (iv_w i5 (by decide)) rq mq gj7) r8 (Cn := RX2) (T := TX2) (N := 11) rfl rfl mk_X2_seen w_744 w_710 w_711 w_712 ⟨Nat.le_of_ble_eq_true rfl, Nat.le_of_ble_eq_true rfl⟩ rfl (Nat.le_of_ble_eq_true rfl) ⟨Nat.le_of_ble_eq_true rfl, Nat.le_of_ble_eq_true rfl⟩ rfl dX2_staying_43) h (fun r9 f10 H locs p11 h => ?_)
            obtain ⟨tf10, ogf10⟩ := p11
            have egf10 := Fr.nil2 ogf10
            subst egf10
            refine lv_lconst (v := 0) hx hb dX2_staying_46 (by decide) ?_
            refine W.lcmp hx hb dX2_staying_47 (i_topc (fun z12 ez12 mz12 iz12 => ?_))
            refine lv_if_eq (tgt := 59) hx hb dX2_staying_48 (by decide) (fun c13 => ?_) (fun c13 => ?_)
            · have c14 : z12.toInt = 0 := congrArg Int32.toInt c13
              have i15 : iv z12 0 0 := iv_Q c14 iz12 (iv_k (x := 0) (k := 0) rfl) (by decide)
              refine i_inc hx hb dX2_staying_59 hl (k := 3) rfl i5 rfl (lo := (-59)) (hi := 70) (by decide) (by decide) (lv' := fun v => [(3, .int v), (0, .ref u0), (1, .int v29_1), (2, .int v10_2)]) (fun _ => rfl) (fun z17 ls ez17 mz17 iz17 hl => ?_)
              refine lv_goto (tgt := 29) hx hb dX2_staying_62 (by decide) ?_
              exact ih29 ls f_29 H locs v29_1 z17 (show 70 - z17.toInt < _ by omega) (lv_cons hl 1 rfl (lv_cons hl 2 rfl (lv_cons hl 3 rfl (lv_cons hl 0 rfl (lv_nil hl))))) h t_29 o_29 iv29_1 jv29_2 (iv_w iz17 (by decide)) k29_u0_3 k29_u0_2 k29_u0_9 k29_u0_10 k29_rq_0 k29_rq_1 k29_rq_2 k29_rq_3 k29_mq_0 k29_mq_1 k29_mq_2 k29_mq_3
            · have c16 : z12.toInt ≠ 0 := fun z_ => c13 (Int32.toInt_inj.mp z_)
              refine lv_iload_n hx hb dX2_staying_51 rfl (lv_at hl 1 rfl) ?_
              refine lv_iload_n hx hb dX2_staying_52 rfl (lv_at hl 2 rfl) ?_
              refine lv_iload_n hx hb dX2_staying_53 rfl (lv_at hl 3 rfl) ?_
              refine k_i (r_S C h hl (As := [.int v10_2, .int v29_3]) (rest := [.int v29_1]) (s_X2_stepsInside l D G b0 τ f_29 t_29 v10_2 (iv_w jv29_2 (by decide)) v29_3 (iv_w i5 (by decide))) mk_X2_stepsInside w_1003 w_1004 w_1005 ⟨Nat.le_of_ble_eq_true rfl, Nat.le_of_ble_eq_true rfl⟩ rfl (Nat.le_of_ble_eq_true rfl) ⟨Nat.le_of_ble_eq_true rfl, Nat.le_of_ble_eq_true rfl⟩ rfl dX2_staying_54) h (fun r18 f19 H locs p20 h => ?_)
              obtain ⟨ir18, tf19, ogf19⟩ := p20
              have egf19 := Fr.nil2 ogf19
              subst egf19
              refine lv_ior hx hb dX2_staying_57 (i_top (iv_any _) (fun z21 ez21 iz21 => ?_))
              refine lv_istore_n (lv' := [(1, .int z21), (0, .ref u0), (2, .int v10_2), (3, .int v29_3)]) hx hb dX2_staying_58 rfl hl (by decide) rfl (fun ls hl => ?_)
              refine i_inc hx hb dX2_staying_59 hl (k := 3) rfl i5 rfl (lo := (-59)) (hi := 70) (by decide) (by decide) (lv' := fun v => [(3, .int v), (1, .int z21), (0, .ref u0), (2, .int v10_2)]) (fun _ => rfl) (fun z22 ls ez22 mz22 iz22 hl => ?_)
              refine lv_goto (tgt := 29) hx hb dX2_staying_62 (by decide) ?_
              exact ih29 ls f_29 H locs z21 z22 (show 70 - z22.toInt < _ by omega) (lv_cons hl 2 rfl (lv_cons hl 1 rfl (lv_cons hl 3 rfl (lv_cons hl 0 rfl (lv_nil hl))))) h t_29 o_29 iz21 jv29_2 (iv_w iz22 (by decide)) k29_u0_3 k29_u0_2 k29_u0_9 k29_u0_10 k29_rq_0 k29_rq_1 k29_rq_2 k29_rq_3 k29_mq_0 k29_mq_1 k29_mq_2 k29_mq_3
      refine lv_iload_n hx hb dX2_staying_10 rfl (lv_at hl 2 rfl) ?_
      refine lv_aload_n hx hb dX2_staying_11 rfl (lv_at hl 0 rfl) ?_
      refine t_getfd C h t_10 hu0 (by decide) wf_20 (v := .ref rq) k10_u0_3 fl_X2_25 dX2_staying_12 ?_
      refine t_getfd C h t_10 trq (by decide) wf_23 (v := .int rr) k10_rq_2 fl_X2_66 dX2_staying_15 ?_
      refine lv_icmp_gt (tgt := 71) hx hb dX2_staying_18 (by decide) (fun c23 => ?_) (fun c23 => ?_)
      · have c24 : rr.toInt < v10_2.toInt := Int32.lt_iff_toInt_lt.mp c23
        have i25 : iv v10_2 (-59) 70 := iv_Lr c24 irr iv10_2 (by decide)
        refine lv_iload_n hx hb dX2_staying_71 rfl (lv_at hl 1 rfl) ?_
        exact u_iret C h hr hQ (⟨iv10_1, t_10, o_10⟩) (Nat.le_of_ble_eq_true rfl) (Nat.le_of_ble_eq_true rfl) dX2_staying_72
      · have c26 : v10_2.toInt ≤ rr.toInt := Int32.le_iff_toInt_le.mp (iv_nlt c23)
        have i27 : iv v10_2 (-60) 69 := iv_El c26 iv10_2 irr (by decide)
        refine lv_aload_n hx hb dX2_staying_21 rfl (lv_at hl 0 rfl) ?_
        refine t_getfd C h t_10 hu0 (by decide) wf_20 (v := .ref rq) k10_u0_3 fl_X2_25 dX2_staying_22 ?_
        refine t_getfd C h t_10 trq (by decide) wf_23 (v := .int rb) k10_rq_1 fl_X2_63 dX2_staying_25 ?_
        refine lv_istore_n (lv' := [(3, .int rb), (0, .ref u0), (1, .int v10_1), (2, .int v10_2)]) hx hb dX2_staying_28 rfl hl (by decide) rfl (fun ls hl => ?_)
        exact L29 131 ls f_10 H locs v10_1 rb (show 70 - rb.toInt < _ by omega) (lv_cons hl 1 rfl (lv_cons hl 2 rfl (lv_cons hl 3 rfl (lv_cons hl 0 rfl (lv_nil hl))))) h t_10 o_10 iv10_1 i27 (iv_w irb (by decide)) k10_u0_3 k10_u0_2 k10_u0_9 k10_u0_10 k10_rq_0 k10_rq_1 k10_rq_2 k10_rq_3 k10_mq_0 k10_mq_1 k10_mq_2 k10_mq_3
  refine lv_iconst (v := 0) hx hb dX2_staying_0 (by decide) ?_
  refine lv_istore_n (lv' := [(1, .int 0), (0, .ref u0)]) hx hb dX2_staying_1 rfl hl (by decide) rfl (fun ls hl => ?_)
  refine lv_aload_n hx hb dX2_staying_2 rfl (lv_at hl 1 rfl) ?_
  refine t_getfd C h t hu0 (by decide) wf_20 (v := .ref rq) kg3 fl_X2_25 dX2_staying_3 ?_
  refine t_getfd C h t trq (by decide) wf_23 (v := .int rl) krl fl_X2_60 dX2_staying_6 ?_
  refine lv_istore_n (lv' := [(2, .int rl), (1, .int 0), (0, .ref u0)]) hx hb dX2_staying_9 rfl hl (by decide) rfl (fun ls hl => ?_)
  exact L10 131 ls f s.heap [] 0 rl (show 70 - rl.toInt < _ by omega) (lv_cons hl 2 rfl (lv_cons hl 1 rfl (lv_cons hl 0 rfl (lv_nil hl)))) h t o ⟨by decide, by decide⟩ (iv_w irl (by decide)) kg3 kg2 ksx ksy krl krb krr krt kml kmb kmr kmt
abbrev rm_s_X2_copyQuarter : Room := { frames := 2, cells := 0, slots := 0, locals := 44 }
set_option maxRecDepth 100000 in
set_option maxHeartbeats 4000000 in
theorem s_X2_copyQuarter (l : Launch) (D : va_G) (G : Nat → Nat) (b0 : Nat) (τ : Nat → Nat) (f : hM) (t : TI G 9 τ f) (u0 : Nat) (hu0 : τ u0 = 20) (u1 : Nat) (hu1 : τ u1 = 51) (rq mq : Nat) (hGJ : GJ τ f u0 rq mq) : mV l yX2_copyQuarter cX2_copyQuarter 4 rm_s_X2_copyQuarter D G b0 f [.ref u0, .ref u1] (fun f1 => TI G 9 τ f1 ∧ Fr [51] τ f f1) := by
  refine met2 (own := RX2) (by decide) rfl (Nat.le_of_ble_eq_true rfl) ?_
  intro p e s m args below meth c ls Q hQ C hr hini hl h
  have hl : lv_has ls 4 [(0, .ref u0), (1, .ref u1)] := hl
  obtain ⟨hx, hb, hml, hown, hts, hE0, hlk⟩ := id C
  have o := Fr.rf [51] τ f
  obtain ⟨sx, sy, rl, rb, rr, rt, ml, mb, mr, mt, ⟨trq, tmq⟩, ⟨kg3, kg2, ksx, ksy⟩, ⟨krl, krb, krr, krt⟩, ⟨kml, kmb, kmr, kmt⟩, ⟨isx, isy, irl, irb, irr, irt, iml, imb, imr, imt⟩, ⟨gr1, gr2, gr3, gr4⟩, ⟨gr5, gr6, gr7, gr8⟩⟩ := hGJ
  have L2 : ∀ (n2 : Nat) (ls : Array Slot) (f_2 : hM) (H : Heap) (locs : List Loc) (v2_2 : Int32), 70 - v2_2.toInt < (n2 : Int) → lv_has ls 4 [(0, .ref u0), (1, .ref u1), (2, .int v2_2)] → hw D b0 s.heap f_2 H locs → TI G 9 τ f_2 → Fr [51] τ f f_2 → iv v2_2 0 70 → atp f_2 u0 (fd 3 (.ref rq)) → atp f_2 u0 (fd 2 (.ref mq)) → atp f_2 u0 (fd 9 (.int sx)) → atp f_2 u0 (fd 10 (.int sy)) → atp f_2 rq (fd 0 (.int rl)) → atp f_2 rq (fd 1 (.int rb)) → atp f_2 rq (fd 2 (.int rr)) → atp f_2 rq (fd 3 (.int rt)) → atp f_2 mq (fd 0 (.int ml)) → atp f_2 mq (fd 1 (.int mb)) → atp f_2 mq (fd 2 (.int mr)) → atp f_2 mq (fd 3 (.int mt)) → W p l e rm_s_X2_copyQuarter s m args below meth c H locs 0 0 Q (F0 m 2 ls []) := by
    intro n2
    induction n2 with
    | zero => intro ls f_2 H locs v2_2 hm2 hl h t_2 o_2 iv2_2 k2_u0_3 k2_u0_2 k2_u0_9 k2_u0_10 k2_rq_0 k2_rq_1 k2_rq_2 k2_rq_3 k2_mq_0 k2_mq_1 k2_mq_2 k2_mq_3; exact absurd hm2 (by omega)
    | succ n2 ih2 =>
      intro ls f_2 H locs v2_2 hm2 hl h t_2 o_2 iv2_2 k2_u0_3 k2_u0_2 k2_u0_9 k2_u0_10 k2_rq_0 k2_rq_1 k2_rq_2 k2_rq_3 k2_mq_0 k2_mq_1 k2_mq_2 k2_mq_3
      have L10 : ∀ (n10 : Nat) (ls : Array Slot) (f_10 : hM) (H : Heap) (locs : List Loc) (v10_3 : Int32), 70 - v10_3.toInt < (n10 : Int) → lv_has ls 4 [(0, .ref u0), (1, .ref u1), (2, .int v2_2), (3, .int v10_3)] → hw D b0 s.heap f_10 H locs → TI G 9 τ f_10 → Fr [51] τ f f_10 → iv v2_2 0 69 → iv v10_3 0 70 → atp f_10 u0 (fd 3 (.ref rq)) → atp f_10 u0 (fd 2 (.ref mq)) → atp f_10 u0 (fd 9 (.int sx)) → atp f_10 u0 (fd 10 (.int sy)) → atp f_10 rq (fd 0 (.int rl)) → atp f_10 rq (fd 1 (.int rb)) → atp f_10 rq (fd 2 (.int rr)) → atp f_10 rq (fd 3 (.int rt)) → atp f_10 mq (fd 0 (.int ml)) → atp f_10 mq (fd 1 (.int mb)) → atp f_10 mq (fd 2 (.int mr)) → atp f_10 mq (fd 3 (.int mt)) → W p l e rm_s_X2_copyQuarter s m args below meth c H locs 0 0 Q (F0 m 10 ls []) := by
        intro n10
        induction n10 with
        | zero => intro ls f_10 H locs v10_3 hm10 hl h t_10 o_10 jv10_2 iv10_3 k10_u0_3 k10_u0_2 k10_u0_9 k10_u0_10 k10_rq_0 k10_rq_1 k10_rq_2 k10_rq_3 k10_mq_0 k10_mq_1 k10_mq_2 k10_mq_3; exact absurd hm10 (by omega)
        | succ n10 ih10 =>
          intro ls f_10 H locs v10_3 hm10 hl h t_10 o_10 jv10_2 iv10_3 k10_u0_3 k10_u0_2 k10_u0_9 k10_u0_10 k10_rq_0 k10_rq_1 k10_rq_2 k10_rq_3 k10_mq_0 k10_mq_1 k10_mq_2 k10_mq_3
          refine lv_iload_n hx hb dX2_copyQuarter_10 rfl (lv_at hl 3 rfl) ?_
          refine lv_bipush (v := 70) hx hb dX2_copyQuarter_11 (by decide) ?_
          refine lv_icmp_ge (tgt := 47) hx hb dX2_copyQuarter_13 (by decide) (fun c1 => ?_) (fun c1 => ?_)
          · have c2 : 70 ≤ v10_3.toInt := Int32.le_iff_toInt_le.mp c1
            have i3 : iv v10_3 70 70 := iv_Er c2 (iv_k (x := 70) (k := 70) rfl) iv10_3 (by decide)
            refine i_inc hx hb dX2_copyQuarter_47 hl (k := 2) rfl jv10_2 rfl (lo := 1) (hi := 70) (by decide) (by decide) (lv' := fun v => [(2, .int v), (0, .ref u0), (1, .ref u1), (3, .int v10_3)]) (fun _ => rfl) (fun z6 ls ez6 mz6 iz6 hl => ?_)
            refine lv_goto (tgt := 2) hx hb dX2_copyQuarter_50 (by decide) ?_
            exact ih2 ls f_10 H locs z6 (show 70 - z6.toInt < _ by omega) (lv_cons hl 1 rfl (lv_cons hl 2 rfl (lv_cons hl 0 rfl (lv_nil hl)))) h t_10 o_10 (iv_w iz6 (by decide)) k10_u0_3 k10_u0_2 k10_u0_9 k10_u0_10 k10_rq_0 k10_rq_1 k10_rq_2 k10_rq_3 k10_mq_0 k10_mq_1 k10_mq_2 k10_mq_3
          · have c4 : v10_3.toInt < 70 := Int32.lt_iff_toInt_lt.mp (iv_nle c1)
            have i5 : iv v10_3 0 69 := iv_Ll c4 iv10_3 (iv_k (x := 70) (k := 70) rfl) (by decide)
            refine lv_iload_n hx hb dX2_copyQuarter_16 rfl (lv_at hl 2 rfl) ?_
            refine lv_bipush (v := 70) hx hb dX2_copyQuarter_17 (by decide) ?_
            refine i_mulc hx hb dX2_copyQuarter_19 jv10_2 (k := 70) rfl (lo := 0) (hi := 4830) (by decide) (fun z7 ez7 mz7 iz7 => ?_)
            refine lv_iload_n hx hb dX2_copyQuarter_20 rfl (lv_at hl 3 rfl) ?_
            refine i_add hx hb dX2_copyQuarter_21 iz7 i5 (lo := 0) (hi := 4899) (by decide) (fun z8 ez8 mz8 iz8 => ?_)
            refine lv_aload_n hx hb dX2_copyQuarter_22 rfl (lv_at hl 1 rfl) ?_
            refine t_alen C h t_10 hu1 (by decide) (n := 4900) (v := 4900) (fun e_ h_ => Or.inr (wf_51 e_ h_)) rfl dX2_copyQuarter_23 ?_
            refine lv_icmp_ge (tgt := 47) hx hb dX2_copyQuarter_24 (by decide) (fun c9 => ?_) (fun c9 => ?_)
            · have c10 : 4900 ≤ z8.toInt := Int32.le_iff_toInt_le.mp c9
              exact (iv_ce_ c10 (iv_k (x := 4900) (k := 4900) rfl) iz8 (by decide)).elim
            · have c11 : z8.toInt < 4900 := Int32.lt_iff_toInt_lt.mp (iv_nle c9)
              refine lv_aload_n hx hb dX2_copyQuarter_27 rfl (lv_at hl 1 rfl) ?_
              refine lv_iload_n hx hb dX2_copyQuarter_28 rfl (lv_at hl 2 rfl) ?_
              refine lv_bipush (v := 70) hx hb dX2_copyQuarter_29 (by decide) ?_
              refine i_mulc hx hb dX2_copyQuarter_31 jv10_2 (k := 70) rfl (lo := 0) (hi := 4830) (by decide) (fun z12 ez12 mz12 iz12 => ?_)
              refine lv_iload_n hx hb dX2_copyQuarter_32 rfl (lv_at hl 3 rfl) ?_
              refine i_add hx hb dX2_copyQuarter_33 iz12 i5 (lo := 0) (hi := 4899) (by decide) (fun z13 ez13 mz13 iz13 => ?_)
              refine lv_aload_n hx hb dX2_copyQuarter_34 rfl (lv_at hl 0 rfl) ?_
              refine lv_iload_n hx hb dX2_copyQuarter_35 rfl (lv_at hl 2 rfl) ?_
              refine lv_iload_n hx hb dX2_copyQuarter_36 rfl (lv_at hl 3 rfl) ?_
              have gj14 : GJ τ f_10 u0 rq mq := ⟨sx, sy, rl, rb, rr, rt, ml, mb, mr, mt, ⟨trq, tmq⟩, ⟨k10_u0_3, k10_u0_2, k10_u0_9, k10_u0_10⟩, ⟨k10_rq_0, k10_rq_1, k10_rq_2, k10_rq_3⟩, ⟨k10_mq_0, k10_mq_1, k10_mq_2, k10_mq_3⟩, ⟨isx, isy, irl, irb, irr, irt, iml, imb, imr, imt⟩, ⟨by omega, by omega, by omega, by omega⟩, ⟨by omega, by omega, by omega, by omega⟩⟩
              obtain ⟨_, r15⟩ := t_rec t_10 hu0 (by decide) wf_20
              refine k_l (r_V C h hl (As := [.int v2_2, .int v10_3]) (rest := [.int z13, .ref u1]) (s_X2_seen l D G b0 τ f_10 t_10 u0 hu0 v2_2 (iv_w jv10_2 (by decide)) v10_3 (iv_w i5 (by decide)) rq mq gj14) r15 (Cn := RX2) (T := TX2) (N := 11) rfl rfl mk_X2_seen w_744 w_710 w_711 w_712 ⟨Nat.le_of_ble_eq_true rfl, Nat.le_of_ble_eq_true rfl⟩ rfl (Nat.le_of_ble_eq_true rfl) ⟨Nat.le_of_ble_eq_true rfl, Nat.le_of_ble_eq_true rfl⟩ rfl dX2_copyQuarter_37) h (fun r16 f17 H locs p18 h => ?_)
              obtain ⟨tf17, ogf17⟩ := p18
              have egf17 := Fr.nil2 ogf17
              subst egf17
              refine t_last C h t_10 o_10 hu1 (by decide) (by decide) wf_51 fw_51 (iv_in iz13 (by decide)) dX2_copyQuarter_40 (fun f19 H locs h tf19 of19 hq => ?_)
              have k20 := atp.tg k10_u0_3 hq hu0 (by decide)
              have k21 := atp.tg k10_u0_2 hq hu0 (by decide)
              have k22 := atp.tg k10_u0_9 hq hu0 (by decide)
              have k23 := atp.tg k10_u0_10 hq hu0 (by decide)
              have k24 := atp.tg k10_rq_0 hq trq (by decide)
              have k25 := atp.tg k10_rq_1 hq trq (by decide)
              have k26 := atp.tg k10_rq_2 hq trq (by decide)
              have k27 := atp.tg k10_rq_3 hq trq (by decide)
              have k28 := atp.tg k10_mq_0 hq tmq (by decide)
              have k29 := atp.tg k10_mq_1 hq tmq (by decide)
              have k30 := atp.tg k10_mq_2 hq tmq (by decide)
              have k31 := atp.tg k10_mq_3 hq tmq (by decide)
              refine i_inc hx hb dX2_copyQuarter_41 hl (k := 3) rfl i5 rfl (lo := 1) (hi := 70) (by decide) (by decide) (lv' := fun v => [(3, .int v), (0, .ref u0), (1, .ref u1), (2, .int v2_2)]) (fun _ => rfl) (fun z32 ls ez32 mz32 iz32 hl => ?_)
              refine lv_goto (tgt := 10) hx hb dX2_copyQuarter_44 (by decide) ?_
              exact ih10 ls f19 H locs z32 (show 70 - z32.toInt < _ by omega) (lv_cons hl 1 rfl (lv_cons hl 2 rfl (lv_cons hl 3 rfl (lv_cons hl 0 rfl (lv_nil hl))))) h tf19 of19 jv10_2 (iv_w iz32 (by decide)) k20 k21 k22 k23 k24 k25 k26 k27 k28 k29 k30 k31
      refine lv_iload_n hx hb dX2_copyQuarter_2 rfl (lv_at hl 2 rfl) ?_
      refine lv_bipush (v := 70) hx hb dX2_copyQuarter_3 (by decide) ?_
      refine lv_icmp_ge (tgt := 53) hx hb dX2_copyQuarter_5 (by decide) (fun c33 => ?_) (fun c33 => ?_)
      · have c34 : 70 ≤ v2_2.toInt := Int32.le_iff_toInt_le.mp c33
        have i35 : iv v2_2 70 70 := iv_Er c34 (iv_k (x := 70) (k := 70) rfl) iv2_2 (by decide)
        exact u_vret C h hr hQ (⟨t_2, o_2⟩) (Nat.le_of_ble_eq_true rfl) (Nat.le_of_ble_eq_true rfl) dX2_copyQuarter_53
      · have c36 : v2_2.toInt < 70 := Int32.lt_iff_toInt_lt.mp (iv_nle c33)
        have i37 : iv v2_2 0 69 := iv_Ll c36 iv2_2 (iv_k (x := 70) (k := 70) rfl) (by decide)
        refine lv_iconst (v := 0) hx hb dX2_copyQuarter_8 (by decide) ?_
        refine lv_istore_n (lv' := [(3, .int 0), (0, .ref u0), (1, .ref u1), (2, .int v2_2)]) hx hb dX2_copyQuarter_9 rfl hl (by decide) rfl (fun ls hl => ?_)
        exact L10 71 ls f_2 H locs 0 (by decide) (lv_cons hl 1 rfl (lv_cons hl 2 rfl (lv_cons hl 3 rfl (lv_cons hl 0 rfl (lv_nil hl))))) h t_2 o_2 i37 ⟨by decide, by decide⟩ k2_u0_3 k2_u0_2 k2_u0_9 k2_u0_10 k2_rq_0 k2_rq_1 k2_rq_2 k2_rq_3 k2_mq_0 k2_mq_1 k2_mq_2 k2_mq_3
  refine lv_iconst (v := 0) hx hb dX2_copyQuarter_0 (by decide) ?_
  refine lv_istore_n (lv' := [(2, .int 0), (0, .ref u0), (1, .ref u1)]) hx hb dX2_copyQuarter_1 rfl hl (by decide) rfl (fun ls hl => ?_)
  exact L2 71 ls f s.heap [] 0 (by decide) (lv_cons hl 1 rfl (lv_cons hl 2 rfl (lv_cons hl 0 rfl (lv_nil hl)))) h t o ⟨by decide, by decide⟩ kg3 kg2 ksx ksy krl krb krr krt kml kmb kmr kmt
abbrev rm_s_X2_matched : Room := { frames := 2, cells := 0, slots := 0, locals := 44 }
set_option maxRecDepth 100000 in
set_option maxHeartbeats 4000000 in
theorem s_X2_matched (l : Launch) (D : va_G) (G : Nat → Nat) (b0 : Nat) (τ : Nat → Nat) (f : hM) (t : TI G 9 τ f) (u0 : Nat) (hu0 : τ u0 = 20) (u1 : Nat) (hu1 : τ u1 = 51) (rq mq : Nat) (hGJ : GJ τ f u0 rq mq) : mI l yX2_matched cX2_matched 6 (.int) rm_s_X2_matched D G b0 f [.ref u0, .ref u1] (fun r f1 => iv r (-2147483648) 2147483647 ∧ TI G 9 τ f1 ∧ Fr [] τ f f1) := by
  refine met2 (own := RX2) (by decide) rfl (Nat.le_of_ble_eq_true rfl) ?_
  intro p e s m args below meth c ls Q hQ C hr hini hl h
  have hl : lv_has ls 6 [(0, .ref u0), (1, .ref u1)] := hl
  obtain ⟨hx, hb, hml, hown, hts, hE0, hlk⟩ := id C
  have o := Fr.rf [] τ f
  obtain ⟨sx, sy, rl, rb, rr, rt, ml, mb, mr, mt, ⟨trq, tmq⟩, ⟨kg3, kg2, ksx, ksy⟩, ⟨krl, krb, krr, krt⟩, ⟨kml, kmb, kmr, kmt⟩, ⟨isx, isy, irl, irb, irr, irt, iml, imb, imr, imt⟩, ⟨gr1, gr2, gr3, gr4⟩, ⟨gr5, gr6, gr7, gr8⟩⟩ := hGJ
  have L5 : ∀ (n5 : Nat) (ls : Array Slot) (f_5 : hM) (H : Heap) (locs : List Loc) (v5_2 : Int64) (v5_4 : Int32), 70 - v5_4.toInt < (n5 : Int) → lv_has ls 6 [(0, .ref u0), (1, .ref u1), (2, .long v5_2), (4, .int v5_4)] → hw D b0 s.heap f_5 H locs → TI G 9 τ f_5 → Fr [] τ f f_5 → iv v5_4 0 70 → atp f_5 u0 (fd 3 (.ref rq)) → atp f_5 u0 (fd 2 (.ref mq)) → atp f_5 u0 (fd 9 (.int sx)) → atp f_5 u0 (fd 10 (.int sy)) → atp f_5 rq (fd 0 (.int rl)) → atp f_5 rq (fd 1 (.int rb)) → atp f_5 rq (fd 2 (.int rr)) → atp f_5 rq (fd 3 (.int rt)) → atp f_5 mq (fd 0 (.int ml)) → atp f_5 mq (fd 1 (.int mb)) → atp f_5 mq (fd 2 (.int mr)) → atp f_5 mq (fd 3 (.int mt)) → W p l e rm_s_X2_matched s m args below meth c H locs 0 0 Q (F0 m 5 ls []) := by
    intro n5
    induction n5 with
    | zero => intro ls f_5 H locs v5_2 v5_4 hm5 hl h t_5 o_5 iv5_4 k5_u0_3 k5_u0_2 k5_u0_9 k5_u0_10 k5_rq_0 k5_rq_1 k5_rq_2 k5_rq_3 k5_mq_0 k5_mq_1 k5_mq_2 k5_mq_3; exact absurd hm5 (by omega)
    | succ n5 ih5 =>
      intro ls f_5 H locs v5_2 v5_4 hm5 hl h t_5 o_5 iv5_4 k5_u0_3 k5_u0_2 k5_u0_9 k5_u0_10 k5_rq_0 k5_rq_1 k5_rq_2 k5_rq_3 k5_mq_0 k5_mq_1 k5_mq_2 k5_mq_3
      have L15 : ∀ (n15 : Nat) (ls : Array Slot) (f_15 : hM) (H : Heap) (locs : List Loc) (v15_2 : Int64) (v15_5 : Int32), 70 - v15_5.toInt < (n15 : Int) → lv_has ls 6 [(0, .ref u0), (1, .ref u1), (2, .long v15_2), (4, .int v5_4), (5, .int v15_5)] → hw D b0 s.heap f_15 H locs → TI G 9 τ f_15 → Fr [] τ f f_15 → iv v5_4 0 69 → iv v15_5 0 70 → atp f_15 u0 (fd 3 (.ref rq)) → atp f_15 u0 (fd 2 (.ref mq)) → atp f_15 u0 (fd 9 (.int sx)) → atp f_15 u0 (fd 10 (.int sy)) → atp f_15 rq (fd 0 (.int rl)) → atp f_15 rq (fd 1 (.int rb)) → atp f_15 rq (fd 2 (.int rr)) → atp f_15 rq (fd 3 (.int rt)) → atp f_15 mq (fd 0 (.int ml)) → atp f_15 mq (fd 1 (.int mb)) → atp f_15 mq (fd 2 (.int mr)) → atp f_15 mq (fd 3 (.int mt)) → W p l e rm_s_X2_matched s m args below meth c H locs 0 0 Q (F0 m 15 ls []) := by
        intro n15
        induction n15 with
        | zero => intro ls f_15 H locs v15_2 v15_5 hm15 hl h t_15 o_15 jv15_4 iv15_5 k15_u0_3 k15_u0_2 k15_u0_9 k15_u0_10 k15_rq_0 k15_rq_1 k15_rq_2 k15_rq_3 k15_mq_0 k15_mq_1 k15_mq_2 k15_mq_3; exact absurd hm15 (by omega)
        | succ n15 ih15 =>
          intro ls f_15 H locs v15_2 v15_5 hm15 hl h t_15 o_15 jv15_4 iv15_5 k15_u0_3 k15_u0_2 k15_u0_9 k15_u0_10 k15_rq_0 k15_rq_1 k15_rq_2 k15_rq_3 k15_mq_0 k15_mq_1 k15_mq_2 k15_mq_3
          refine lv_iload hx hb dX2_matched_15 (lv_at hl 4 rfl) ?_
          refine lv_bipush (v := 70) hx hb dX2_matched_17 (by decide) ?_
          refine lv_icmp_ge (tgt := 66) hx hb dX2_matched_19 (by decide) (fun c1 => ?_) (fun c1 => ?_)
          · have c2 : 70 ≤ v15_5.toInt := Int32.le_iff_toInt_le.mp c1
            have i3 : iv v15_5 70 70 := iv_Er c2 (iv_k (x := 70) (k := 70) rfl) iv15_5 (by decide)
            refine i_inc hx hb dX2_matched_66 hl (k := 3) rfl jv15_4 rfl (lo := 1) (hi := 70) (by decide) (by decide) (lv' := fun v => [(4, .int v), (0, .ref u0), (1, .ref u1), (2, .long v15_2), (5, .int v15_5)]) (fun _ => rfl) (fun z6 ls ez6 mz6 iz6 hl => ?_)
            refine lv_goto (tgt := 5) hx hb dX2_matched_69 (by decide) ?_
            exact ih5 ls f_15 H locs v15_2 z6 (show 70 - z6.toInt < _ by omega) (lv_cons hl 1 rfl (lv_cons hl 2 rfl (lv_cons hl 3 rfl (lv_cons hl 0 rfl (lv_nil hl))))) h t_15 o_15 (iv_w iz6 (by decide)) k15_u0_3 k15_u0_2 k15_u0_9 k15_u0_10 k15_rq_0 k15_rq_1 k15_rq_2 k15_rq_3 k15_mq_0 k15_mq_1 k15_mq_2 k15_mq_3
          · have c4 : v15_5.toInt < 70 := Int32.lt_iff_toInt_lt.mp (iv_nle c1)
            have i5 : iv v15_5 0 69 := iv_Ll c4 iv15_5 (iv_k (x := 70) (k := 70) rfl) (by decide)
            refine lv_iload hx hb dX2_matched_22 (lv_at hl 3 rfl) ?_
            refine lv_bipush (v := 70) hx hb dX2_matched_24 (by decide) ?_
            refine i_mulc hx hb dX2_matched_26 jv15_4 (k := 70) rfl (lo := 0) (hi := 4830) (by decide) (fun z7 ez7 mz7 iz7 => ?_)
            refine lv_iload hx hb dX2_matched_27 (lv_at hl 4 rfl) ?_
            refine i_add hx hb dX2_matched_29 iz7 i5 (lo := 0) (hi := 4899) (by decide) (fun z8 ez8 mz8 iz8 => ?_)
            refine lv_aload_n hx hb dX2_matched_30 rfl (lv_at hl 1 rfl) ?_
            refine t_alen C h t_15 hu1 (by decide) (n := 4900) (v := 4900) (fun e_ h_ => Or.inr (wf_51 e_ h_)) rfl dX2_matched_31 ?_
            refine lv_icmp_ge (tgt := 66) hx hb dX2_matched_32 (by decide) (fun c9 => ?_) (fun c9 => ?_)
            · have c10 : 4900 ≤ z8.toInt := Int32.le_iff_toInt_le.mp c9
              exact (iv_ce_ c10 (iv_k (x := 4900) (k := 4900) rfl) iz8 (by decide)).elim
            · have c11 : z8.toInt < 4900 := Int32.lt_iff_toInt_lt.mp (iv_nle c9)
              refine lv_lload_n hx hb dX2_matched_35 rfl (lv_at hl 2 rfl) ?_
              refine lv_aload_n hx hb dX2_matched_36 rfl (lv_at hl 1 rfl) ?_
              refine lv_iload hx hb dX2_matched_37 (lv_at hl 3 rfl) ?_
              refine lv_bipush (v := 70) hx hb dX2_matched_39 (by decide) ?_
              refine i_mulc hx hb dX2_matched_41 jv15_4 (k := 70) rfl (lo := 0) (hi := 4830) (by decide) (fun z12 ez12 mz12 iz12 => ?_)
              refine lv_iload hx hb dX2_matched_42 (lv_at hl 4 rfl) ?_
              refine i_add hx hb dX2_matched_44 iz12 i5 (lo := 0) (hi := 4899) (by decide) (fun z13 ez13 mz13 iz13 => ?_)
              refine t_lald C h t_15 hu1 (by decide) wf_51 (iv_in iz13 (by decide)) dX2_matched_45 (fun w14 => ?_)
              refine lv_aload_n hx hb dX2_matched_46 rfl (lv_at hl 0 rfl) ?_
              refine lv_iload hx hb dX2_matched_47 (lv_at hl 3 rfl) ?_
              refine lv_iload hx hb dX2_matched_49 (lv_at hl 4 rfl) ?_
              have gj15 : GJ τ f_15 u0 rq mq := ⟨sx, sy, rl, rb, rr, rt, ml, mb, mr, mt, ⟨trq, tmq⟩, ⟨k15_u0_3, k15_u0_2, k15_u0_9, k15_u0_10⟩, ⟨k15_rq_0, k15_rq_1, k15_rq_2, k15_rq_3⟩, ⟨k15_mq_0, k15_mq_1, k15_mq_2, k15_mq_3⟩, ⟨isx, isy, irl, irb, irr, irt, iml, imb, imr, imt⟩, ⟨by omega, by omega, by omega, by omega⟩, ⟨by omega, by omega, by omega, by omega⟩⟩
              obtain ⟨_, r16⟩ := t_rec t_15 hu0 (by decide) wf_20
              refine k_l (r_V C h hl (As := [.int v5_4, .int v15_5]) (rest := [.long w14, .long v15_2]) (s_X2_seen l D G b0 τ f_15 t_15 u0 hu0 v5_4 (iv_w jv15_4 (by decide)) v15_5 (iv_w i5 (by decide)) rq mq gj15) r16 (Cn := RX2) (T := TX2) (N := 11) rfl rfl mk_X2_seen w_744 w_710 w_711 w_712 ⟨Nat.le_of_ble_eq_true rfl, Nat.le_of_ble_eq_true rfl⟩ rfl (Nat.le_of_ble_eq_true rfl) ⟨Nat.le_of_ble_eq_true rfl, Nat.le_of_ble_eq_true rfl⟩ rfl dX2_matched_51) h (fun r17 f18 H locs p19 h => ?_)
              obtain ⟨tf18, ogf18⟩ := p19
              have egf18 := Fr.nil2 ogf18
              subst egf18
              refine k_i (r_SN C h hl (host := "QuarterWalks") (As := [.long w14, .long r17]) (rest := [.long v15_2]) (s_X10_times l D G b0 τ f_15 t_15 w14 r17) mk_X10_times (by decide) w_807 w_808 ⟨Nat.le_of_ble_eq_true rfl, Nat.le_of_ble_eq_true rfl⟩ rfl (Nat.le_of_ble_eq_true rfl) ⟨Nat.le_of_ble_eq_true rfl, Nat.le_of_ble_eq_true rfl⟩ rfl dX2_matched_54) h (fun r20 f21 H locs p22 h => ?_)
              obtain ⟨ir20, tf21, ogf21⟩ := p22
              have egf21 := Fr.nil2 ogf21
              subst egf21
              refine lv_i2l hx hb dX2_matched_57 rfl (i_topL ir20 (fun w23 ew23 mw23 iw23 => ?_))
              refine lv_ladd hx hb dX2_matched_58 (lv_topl (fun w24 ew24 => ?_))
              refine lv_lstore_n (lv' := [(2, .long w24), (0, .ref u0), (1, .ref u1), (4, .int v5_4), (5, .int v15_5)]) hx hb dX2_matched_59 rfl hl (by decide) rfl (fun ls hl => ?_)
              refine i_inc hx hb dX2_matched_60 hl (k := 4) rfl i5 rfl (lo := 1) (hi := 70) (by decide) (by decide) (lv' := fun v => [(5, .int v), (2, .long w24), (0, .ref u0), (1, .ref u1), (4, .int v5_4)]) (fun _ => rfl) (fun z25 ls ez25 mz25 iz25 hl => ?_)
              refine lv_goto (tgt := 15) hx hb dX2_matched_63 (by decide) ?_
              exact ih15 ls f_15 H locs w24 z25 (show 70 - z25.toInt < _ by omega) (lv_cons hl 2 rfl (lv_cons hl 3 rfl (lv_cons hl 1 rfl (lv_cons hl 4 rfl (lv_cons hl 0 rfl (lv_nil hl)))))) h t_15 o_15 jv15_4 (iv_w iz25 (by decide)) k15_u0_3 k15_u0_2 k15_u0_9 k15_u0_10 k15_rq_0 k15_rq_1 k15_rq_2 k15_rq_3 k15_mq_0 k15_mq_1 k15_mq_2 k15_mq_3
      refine lv_iload hx hb dX2_matched_5 (lv_at hl 3 rfl) ?_
      refine lv_bipush (v := 70) hx hb dX2_matched_7 (by decide) ?_
      refine lv_icmp_ge (tgt := 72) hx hb dX2_matched_9 (by decide) (fun c26 => ?_) (fun c26 => ?_)
      · have c27 : 70 ≤ v5_4.toInt := Int32.le_iff_toInt_le.mp c26
        have i28 : iv v5_4 70 70 := iv_Er c27 (iv_k (x := 70) (k := 70) rfl) iv5_4 (by decide)
        refine lv_lload_n hx hb dX2_matched_72 rfl (lv_at hl 2 rfl) ?_
        refine k_i (r_SN C h hl (host := "QuarterWalks") (As := [.long v5_2]) (rest := []) (s_X10_residue l D G b0 τ f_5 t_5 v5_2) mk_X10_residue (by decide) w_741 w_742 ⟨Nat.le_of_ble_eq_true rfl, Nat.le_of_ble_eq_true rfl⟩ rfl (Nat.le_of_ble_eq_true rfl) ⟨Nat.le_of_ble_eq_true rfl, Nat.le_of_ble_eq_true rfl⟩ rfl dX2_matched_73) h (fun r31 f32 H locs p33 h => ?_)
        obtain ⟨ir31, tf32, ogf32⟩ := p33
        have egf32 := Fr.nil2 ogf32
        subst egf32
        exact u_iret C h hr hQ (⟨ir31, t_5, o_5⟩) (Nat.le_of_ble_eq_true rfl) (Nat.le_of_ble_eq_true rfl) dX2_matched_76
      · have c29 : v5_4.toInt < 70 := Int32.lt_iff_toInt_lt.mp (iv_nle c26)
        have i30 : iv v5_4 0 69 := iv_Ll c29 iv5_4 (iv_k (x := 70) (k := 70) rfl) (by decide)
        refine lv_iconst (v := 0) hx hb dX2_matched_12 (by decide) ?_
        refine lv_istore (lv' := [(5, .int 0), (0, .ref u0), (1, .ref u1), (2, .long v5_2), (4, .int v5_4)]) hx hb dX2_matched_13 hl (by decide) rfl (fun ls hl => ?_)
        exact L15 71 ls f_5 H locs v5_2 0 (by decide) (lv_cons hl 1 rfl (lv_cons hl 2 rfl (lv_cons hl 3 rfl (lv_cons hl 4 rfl (lv_cons hl 0 rfl (lv_nil hl)))))) h t_5 o_5 i30 ⟨by decide, by decide⟩ k5_u0_3 k5_u0_2 k5_u0_9 k5_u0_10 k5_rq_0 k5_rq_1 k5_rq_2 k5_rq_3 k5_mq_0 k5_mq_1 k5_mq_2 k5_mq_3
  refine lv_lconst (v := 0) hx hb dX2_matched_0 (by decide) ?_
  refine lv_lstore_n (lv' := [(2, .long 0), (0, .ref u0), (1, .ref u1)]) hx hb dX2_matched_1 rfl hl (by decide) rfl (fun ls hl => ?_)
  refine lv_iconst (v := 0) hx hb dX2_matched_2 (by decide) ?_
  refine lv_istore (lv' := [(4, .int 0), (2, .long 0), (0, .ref u0), (1, .ref u1)]) hx hb dX2_matched_3 hl (by decide) rfl (fun ls hl => ?_)
  exact L5 71 ls f s.heap [] 0 0 (by decide) (lv_cons hl 2 rfl (lv_cons hl 3 rfl (lv_cons hl 1 rfl (lv_cons hl 0 rfl (lv_nil hl))))) h t o ⟨by decide, by decide⟩ kg3 kg2 ksx ksy krl krb krr krt kml kmb kmr kmt
