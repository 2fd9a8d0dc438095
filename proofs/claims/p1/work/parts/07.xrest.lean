theorem dJ7_fill_53178_0 : decode cJ7_fill_53178 0 = .ok (.iconst 0, 1) := by decide +kernel
theorem dJ7_fill_53178_1 : decode cJ7_fill_53178 1 = .ok (.istore_n 2, 1) := by decide +kernel
theorem dJ7_fill_53178_2 : decode cJ7_fill_53178 2 = .ok (.aload_n 0, 1) := by decide +kernel
theorem dJ7_fill_53178_3 : decode cJ7_fill_53178 3 = .ok (.arraylength, 1) := by decide +kernel
theorem dJ7_fill_53178_4 : decode cJ7_fill_53178 4 = .ok (.istore_n 3, 1) := by decide +kernel
theorem dJ7_fill_53178_5 : decode cJ7_fill_53178 5 = .ok (.iload_n 2, 1) := by decide +kernel
theorem dJ7_fill_53178_6 : decode cJ7_fill_53178 6 = .ok (.iload_n 3, 1) := by decide +kernel
theorem dJ7_fill_53178_7 : decode cJ7_fill_53178 7 = .ok (.if_icmp .ge 13, 3) := by decide +kernel
theorem dJ7_fill_53178_10 : decode cJ7_fill_53178 10 = .ok (.aload_n 0, 1) := by decide +kernel
theorem dJ7_fill_53178_11 : decode cJ7_fill_53178 11 = .ok (.iload_n 2, 1) := by decide +kernel
theorem dJ7_fill_53178_12 : decode cJ7_fill_53178 12 = .ok (.iload_n 1, 1) := by decide +kernel
theorem dJ7_fill_53178_13 : decode cJ7_fill_53178 13 = .ok (.iastore, 1) := by decide +kernel
theorem dJ7_fill_53178_14 : decode cJ7_fill_53178 14 = .ok (.iinc 2 1, 3) := by decide +kernel
theorem dJ7_fill_53178_17 : decode cJ7_fill_53178 17 = .ok (.goto (-12), 3) := by decide +kernel
theorem dJ7_fill_53178_20 : decode cJ7_fill_53178 20 = .ok (.return_, 1) := by decide +kernel
theorem dX7_read_0 : decode cX7_read 0 = .ok (.aload_n 0, 1) := by decide +kernel
theorem dX7_read_1 : decode cX7_read 1 = .ok (.getfield 15, 3) := by decide +kernel
theorem w_146 : Cond.lays "QuarterWalks$Tape" "QuarterWalks$Tape" "length" "I" ∈ wAll := wIn 146 (by decide +kernel) (by decide +kernel)
theorem w_148 : Cond.laysFinal "QuarterWalks$Tape" "QuarterWalks$Tape" "bytes" "[I" ∈ wAll := wIn 148 (by decide +kernel) (by decide +kernel)
theorem w_150 : Cond.laysFinal "QuarterWalks$Tape" "QuarterWalks$Tape" "weights" "[I" ∈ wAll := wIn 150 (by decide +kernel) (by decide +kernel)
theorem w_152 : Cond.lays "QuarterWalks$Tape" "QuarterWalks$Tape" "startX" "I" ∈ wAll := wIn 152 (by decide +kernel) (by decide +kernel)
theorem w_154 : Cond.lays "QuarterWalks$Tape" "QuarterWalks$Tape" "startY" "I" ∈ wAll := wIn 154 (by decide +kernel) (by decide +kernel)
theorem w_156 : Cond.lays "QuarterWalks$Tape" "QuarterWalks$Tape" "behind" "I" ∈ wAll := wIn 156 (by decide +kernel) (by decide +kernel)
theorem w_158 : Cond.lays "QuarterWalks$Tape" "QuarterWalks$Tape" "lastStep" "I" ∈ wAll := wIn 158 (by decide +kernel) (by decide +kernel)
theorem inA_X7 : ∀ w ∈ u_ws RX7 TX7 7, w ∈ wAll := List.forall_mem_cons.mpr ⟨w_146, List.forall_mem_cons.mpr ⟨w_148, List.forall_mem_cons.mpr ⟨w_150, List.forall_mem_cons.mpr ⟨w_152, List.forall_mem_cons.mpr ⟨w_154, List.forall_mem_cons.mpr ⟨w_156, List.forall_mem_cons.mpr ⟨w_158, fun _ h => absurd h List.not_mem_nil⟩⟩⟩⟩⟩⟩⟩
theorem w_141 : Cond.fieldLink "QuarterWalks$Tape" 15 "QuarterWalks$Tape" "weights" "[I" ∈ wAll := wIn 141 (by decide +kernel) (by decide +kernel)
theorem fl_X7_15 : fl RX7 15 8 2 := ⟨RX7, TX7, 7, rfl, inA_X7, by decide, w_141⟩
theorem dX7_read_4 : decode cX7_read 4 = .ok (.iconst 0, 1) := by decide +kernel
theorem dX7_read_5 : decode cX7_read 5 = .ok (.invokestatic 33, 3) := by decide +kernel
theorem w_436 : Cond.methodLink "QuarterWalks$Tape" 33 yJ7_fill_53178 ∈ wAll := wIn 436 (by decide +kernel) (by decide +kernel)
theorem w_111 : Cond.initialized "java/util/Arrays" ∈ wAll := wIn 111 (by decide +kernel) (by decide +kernel)
theorem mk_J7_fill_53178 : mk yJ7_fill_53178 2 := ⟨by decide +kernel, w_111⟩
theorem w_437 : Cond.static yJ7_fill_53178 ∈ wAll := wIn 437 (by decide +kernel) (by decide +kernel)
theorem w_438 : Cond.code yJ7_fill_53178 cJ7_fill_53178 4 none ∈ wAll := wIn 438 (by decide +kernel) (by decide +kernel)
theorem dX7_read_8 : decode cX7_read 8 = .ok (.aload_n 0, 1) := by decide +kernel
theorem dX7_read_9 : decode cX7_read 9 = .ok (.iconst 0, 1) := by decide +kernel
theorem dX7_read_10 : decode cX7_read 10 = .ok (.putfield 24, 3) := by decide +kernel
theorem w_142 : Cond.fieldLink "QuarterWalks$Tape" 24 "QuarterWalks$Tape" "startX" "I" ∈ wAll := wIn 142 (by decide +kernel) (by decide +kernel)
theorem flw_X7_24 : flw RX7 24 8 3 (.int) := ⟨RX7, TX7, 7, tyX7, rfl, inA_X7, by decide, w_142, tyX7_ok, nmX7, by decide +kernel, Or.inl rfl⟩
theorem dX7_read_13 : decode cX7_read 13 = .ok (.aload_n 0, 1) := by decide +kernel
theorem dX7_read_14 : decode cX7_read 14 = .ok (.iconst 0, 1) := by decide +kernel
theorem dX7_read_15 : decode cX7_read 15 = .ok (.putfield 27, 3) := by decide +kernel
theorem w_143 : Cond.fieldLink "QuarterWalks$Tape" 27 "QuarterWalks$Tape" "startY" "I" ∈ wAll := wIn 143 (by decide +kernel) (by decide +kernel)
theorem flw_X7_27 : flw RX7 27 8 4 (.int) := ⟨RX7, TX7, 7, tyX7, rfl, inA_X7, by decide, w_143, tyX7_ok, nmX7, by decide +kernel, Or.inl rfl⟩
theorem dX7_read_18 : decode cX7_read 18 = .ok (.aload_n 0, 1) := by decide +kernel
theorem dX7_read_19 : decode cX7_read 19 = .ok (.iconst 0, 1) := by decide +kernel
theorem dX7_read_20 : decode cX7_read 20 = .ok (.putfield 39, 3) := by decide +kernel
theorem w_144 : Cond.fieldLink "QuarterWalks$Tape" 39 "QuarterWalks$Tape" "behind" "I" ∈ wAll := wIn 144 (by decide +kernel) (by decide +kernel)
theorem flw_X7_39 : flw RX7 39 8 5 (.int) := ⟨RX7, TX7, 7, tyX7, rfl, inA_X7, by decide, w_144, tyX7_ok, nmX7, by decide +kernel, Or.inl rfl⟩
theorem dX7_read_23 : decode cX7_read 23 = .ok (.aload_n 0, 1) := by decide +kernel
theorem dX7_read_24 : decode cX7_read 24 = .ok (.iconst 0, 1) := by decide +kernel
theorem dX7_read_25 : decode cX7_read 25 = .ok (.putfield 42, 3) := by decide +kernel
theorem w_145 : Cond.fieldLink "QuarterWalks$Tape" 42 "QuarterWalks$Tape" "lastStep" "I" ∈ wAll := wIn 145 (by decide +kernel) (by decide +kernel)
theorem flw_X7_42 : flw RX7 42 8 6 (.int) := ⟨RX7, TX7, 7, tyX7, rfl, inA_X7, by decide, w_145, tyX7_ok, nmX7, by decide +kernel, Or.inl rfl⟩
theorem dX7_read_28 : decode cX7_read 28 = .ok (.iconst 0, 1) := by decide +kernel
theorem dX7_read_29 : decode cX7_read 29 = .ok (.istore_n 1, 1) := by decide +kernel
theorem dX7_read_30 : decode cX7_read 30 = .ok (.iconst 0, 1) := by decide +kernel
theorem dX7_read_31 : decode cX7_read 31 = .ok (.istore_n 2, 1) := by decide +kernel
theorem dX7_read_32 : decode cX7_read 32 = .ok (.iload_n 2, 1) := by decide +kernel
theorem dX7_read_33 : decode cX7_read 33 = .ok (.aload_n 0, 1) := by decide +kernel
theorem dX7_read_34 : decode cX7_read 34 = .ok (.getfield 18, 3) := by decide +kernel
theorem w_139 : Cond.fieldLink "QuarterWalks$Tape" 18 "QuarterWalks$Tape" "length" "I" ∈ wAll := wIn 139 (by decide +kernel) (by decide +kernel)
theorem fl_X7_18 : fl RX7 18 8 0 := ⟨RX7, TX7, 7, rfl, inA_X7, by decide, w_139⟩
theorem dX7_read_37 : decode cX7_read 37 = .ok (.if_icmp .ge 42, 3) := by decide +kernel
theorem dX7_read_79 : decode cX7_read 79 = .ok (.aload_n 0, 1) := by decide +kernel
theorem dX7_read_80 : decode cX7_read 80 = .ok (.getfield 39, 3) := by decide +kernel
theorem fl_X7_39 : fl RX7 39 8 5 := ⟨RX7, TX7, 7, rfl, inA_X7, by decide, w_144⟩
theorem dX7_read_83 : decode cX7_read 83 = .ok (.iconst 1, 1) := by decide +kernel
theorem dX7_read_84 : decode cX7_read 84 = .ok (.if_icmp .eq 20, 3) := by decide +kernel
theorem dX7_read_87 : decode cX7_read 87 = .ok (.aload_n 0, 1) := by decide +kernel
theorem dX7_read_88 : decode cX7_read 88 = .ok (.getfield 39, 3) := by decide +kernel
theorem dX7_read_91 : decode cX7_read 91 = .ok (.iconst 2, 1) := by decide +kernel
theorem dX7_read_92 : decode cX7_read 92 = .ok (.if_icmp .eq 12, 3) := by decide +kernel
theorem dX7_read_95 : decode cX7_read 95 = .ok (.aload_n 0, 1) := by decide +kernel
theorem dX7_read_96 : decode cX7_read 96 = .ok (.getfield 39, 3) := by decide +kernel
theorem dX7_read_99 : decode cX7_read 99 = .ok (.bipush 6, 2) := by decide +kernel
theorem dX7_read_101 : decode cX7_read 101 = .ok (.if_icmp .ne 7, 3) := by decide +kernel
theorem dX7_read_108 : decode cX7_read 108 = .ok (.aload_n 0, 1) := by decide +kernel
theorem dX7_read_109 : decode cX7_read 109 = .ok (.getfield 18, 3) := by decide +kernel
theorem dX7_read_112 : decode cX7_read 112 = .ok (.ireturn, 1) := by decide +kernel
theorem dX0_size_0 : decode cX0_size 0 = .ok (.aload_n 0, 1) := by decide +kernel
theorem dX0_size_1 : decode cX0_size 1 = .ok (.getfield 12, 3) := by decide +kernel
theorem dX0_size_4 : decode cX0_size 4 = .ok (.getfield 25, 3) := by decide +kernel
theorem dX0_size_7 : decode cX0_size 7 = .ok (.ireturn, 1) := by decide +kernel
theorem dX10_unlikeSets_0 : decode cX10_unlikeSets 0 = .ok (.iconst 0, 1) := by decide +kernel
theorem dX10_unlikeSets_1 : decode cX10_unlikeSets 1 = .ok (.istore_n 1, 1) := by decide +kernel
theorem dX10_unlikeSets_2 : decode cX10_unlikeSets 2 = .ok (.iconst 0, 1) := by decide +kernel
theorem dX10_unlikeSets_3 : decode cX10_unlikeSets 3 = .ok (.istore_n 2, 1) := by decide +kernel
theorem dX10_unlikeSets_4 : decode cX10_unlikeSets 4 = .ok (.iload_n 2, 1) := by decide +kernel
theorem dX10_unlikeSets_5 : decode cX10_unlikeSets 5 = .ok (.aload_n 0, 1) := by decide +kernel
theorem dX10_unlikeSets_6 : decode cX10_unlikeSets 6 = .ok (.getfield 19, 3) := by decide +kernel
theorem dX10_unlikeSets_9 : decode cX10_unlikeSets 9 = .ok (.invokevirtual 370, 3) := by decide +kernel
theorem w_1321 : Cond.methodLink "QuarterWalks" 370 yX0_size ∈ wAll := wIn 1321 (by decide +kernel) (by decide +kernel)
theorem w_1323 : Cond.selects yX0_size.cls yX0_size yX0_size ∈ wAll := wIn 1323 (by decide +kernel) (by decide +kernel)
theorem mk_X0_size : mk yX0_size 0 := ⟨by decide +kernel, w_98⟩
theorem w_1322 : Cond.instanceMethod yX0_size ∈ wAll := wIn 1322 (by decide +kernel) (by decide +kernel)
theorem w_1324 : Cond.code yX0_size cX0_size 1 (some .int) ∈ wAll := wIn 1324 (by decide +kernel) (by decide +kernel)
theorem dX10_unlikeSets_12 : decode cX10_unlikeSets 12 = .ok (.if_icmp .ge 20, 3) := by decide +kernel
theorem dX10_unlikeSets_32 : decode cX10_unlikeSets 32 = .ok (.iload_n 1, 1) := by decide +kernel
theorem dX10_unlikeSets_33 : decode cX10_unlikeSets 33 = .ok (.ireturn, 1) := by decide +kernel
theorem dX0_takeBack_0 : decode cX0_takeBack 0 = .ok (.aload_n 0, 1) := by decide +kernel
theorem dX0_takeBack_1 : decode cX0_takeBack 1 = .ok (.getfield 51, 3) := by decide +kernel
theorem w_186 : Cond.fieldLink "QuarterWalks$Book" 51 "QuarterWalks$Book" "past" "I" ∈ wAll := wIn 186 (by decide +kernel) (by decide +kernel)
theorem fl_X0_51 : fl RX0 51 1 0 := ⟨RX0, TX0, 6, rfl, inA_X0, by decide, w_186⟩
theorem dX0_takeBack_4 : decode cX0_takeBack 4 = .ok (.ifCond .ne 5, 3) := by decide +kernel
theorem dX0_takeBack_7 : decode cX0_takeBack 7 = .ok (.iconst (-1), 1) := by decide +kernel
theorem dX0_takeBack_8 : decode cX0_takeBack 8 = .ok (.ireturn, 1) := by decide +kernel
theorem dX0_restore_0 : decode cX0_restore 0 = .ok (.aload_n 0, 1) := by decide +kernel
theorem dX0_restore_1 : decode cX0_restore 1 = .ok (.getfield 60, 3) := by decide +kernel
theorem w_191 : Cond.fieldLink "QuarterWalks$Book" 60 "QuarterWalks$Book" "isKept" "Z" ∈ wAll := wIn 191 (by decide +kernel) (by decide +kernel)
theorem fl_X0_60 : fl RX0 60 1 4 := ⟨RX0, TX0, 6, rfl, inA_X0, by decide, w_191⟩
theorem dX0_restore_4 : decode cX0_restore 4 = .ok (.ifCond .ne 5, 3) := by decide +kernel
theorem dX0_restore_7 : decode cX0_restore 7 = .ok (.iconst (-1), 1) := by decide +kernel
theorem dX0_restore_8 : decode cX0_restore 8 = .ok (.ireturn, 1) := by decide +kernel
theorem dX5_copy_0 : decode cX5_copy 0 = .ok (.iconst 0, 1) := by decide +kernel
theorem dX5_copy_1 : decode cX5_copy 1 = .ok (.istore_n 2, 1) := by decide +kernel
theorem dX5_copy_2 : decode cX5_copy 2 = .ok (.iload_n 2, 1) := by decide +kernel
theorem dX5_copy_3 : decode cX5_copy 3 = .ok (.bipush 8, 2) := by decide +kernel
theorem dX5_copy_5 : decode cX5_copy 5 = .ok (.if_icmp .ge 21, 3) := by decide +kernel
theorem dX5_copy_8 : decode cX5_copy 8 = .ok (.aload_n 0, 1) := by decide +kernel
theorem dX5_copy_9 : decode cX5_copy 9 = .ok (.getfield 11, 3) := by decide +kernel
theorem w_176 : Cond.fieldLink "QuarterWalks$Shelf" 11 "QuarterWalks$Shelf" "sets" "[LQuarterWalks$StepSet;" ∈ wAll := wIn 176 (by decide +kernel) (by decide +kernel)
theorem fl_X5_11 : fl RX5 11 6 0 := ⟨RX5, TX5, 2, rfl, inA_X5, by decide, w_176⟩
theorem dX5_copy_12 : decode cX5_copy 12 = .ok (.iload_n 2, 1) := by decide +kernel
theorem dX5_copy_13 : decode cX5_copy 13 = .ok (.aload_n 1, 1) := by decide +kernel
theorem dX5_copy_14 : decode cX5_copy 14 = .ok (.getfield 11, 3) := by decide +kernel
theorem dX5_copy_17 : decode cX5_copy 17 = .ok (.iload_n 2, 1) := by decide +kernel
theorem dX5_copy_18 : decode cX5_copy 18 = .ok (.aaload, 1) := by decide +kernel
theorem dX5_copy_19 : decode cX5_copy 19 = .ok (.aastore, 1) := by decide +kernel
theorem dX5_copy_20 : decode cX5_copy 20 = .ok (.iinc 2 1, 3) := by decide +kernel
theorem dX5_copy_23 : decode cX5_copy 23 = .ok (.goto (-21), 3) := by decide +kernel
theorem dX5_copy_26 : decode cX5_copy 26 = .ok (.aload_n 0, 1) := by decide +kernel
theorem dX5_copy_27 : decode cX5_copy 27 = .ok (.aload_n 1, 1) := by decide +kernel
theorem dX5_copy_28 : decode cX5_copy 28 = .ok (.getfield 15, 3) := by decide +kernel
theorem w_179 : Cond.fieldLink "QuarterWalks$Shelf" 15 "QuarterWalks$Shelf" "size" "I" ∈ wAll := wIn 179 (by decide +kernel) (by decide +kernel)
theorem fl_X5_15 : fl RX5 15 6 1 := ⟨RX5, TX5, 2, rfl, inA_X5, by decide, w_179⟩
theorem dX5_copy_31 : decode cX5_copy 31 = .ok (.putfield 15, 3) := by decide +kernel
theorem flw_X5_15 : flw RX5 15 6 1 (.int) := ⟨RX5, TX5, 2, tyX5, rfl, inA_X5, by decide, w_179, tyX5_ok, nmX5, by decide +kernel, Or.inl rfl⟩
theorem dX5_copy_34 : decode cX5_copy 34 = .ok (.return_, 1) := by decide +kernel
theorem dX0_keep_0 : decode cX0_keep 0 = .ok (.aload_n 0, 1) := by decide +kernel
theorem dX0_keep_1 : decode cX0_keep 1 = .ok (.getfield 18, 3) := by decide +kernel
theorem w_189 : Cond.fieldLink "QuarterWalks$Book" 18 "QuarterWalks$Book" "kept" "LQuarterWalks$Shelf;" ∈ wAll := wIn 189 (by decide +kernel) (by decide +kernel)
theorem fl_X0_18 : fl RX0 18 1 2 := ⟨RX0, TX0, 6, rfl, inA_X0, by decide, w_189⟩
theorem dX0_keep_4 : decode cX0_keep 4 = .ok (.aload_n 0, 1) := by decide +kernel
theorem dX0_keep_5 : decode cX0_keep 5 = .ok (.getfield 12, 3) := by decide +kernel
theorem dX0_keep_8 : decode cX0_keep 8 = .ok (.invokevirtual 47, 3) := by decide +kernel
theorem w_585 : Cond.methodLink "QuarterWalks$Book" 47 yX5_copy ∈ wAll := wIn 585 (by decide +kernel) (by decide +kernel)
theorem w_587 : Cond.selects yX5_copy.cls yX5_copy yX5_copy ∈ wAll := wIn 587 (by decide +kernel) (by decide +kernel)
theorem w_99 : Cond.initialized "QuarterWalks$Shelf" ∈ wAll := wIn 99 (by decide +kernel) (by decide +kernel)
theorem mk_X5_copy : mk yX5_copy 1 := ⟨by decide +kernel, w_99⟩
theorem w_586 : Cond.instanceMethod yX5_copy ∈ wAll := wIn 586 (by decide +kernel) (by decide +kernel)
theorem w_588 : Cond.code yX5_copy cX5_copy 3 none ∈ wAll := wIn 588 (by decide +kernel) (by decide +kernel)
theorem dX0_keep_11 : decode cX0_keep 11 = .ok (.aload_n 0, 1) := by decide +kernel
theorem dX0_keep_12 : decode cX0_keep 12 = .ok (.iconst 1, 1) := by decide +kernel
theorem dX0_keep_13 : decode cX0_keep 13 = .ok (.putfield 60, 3) := by decide +kernel
theorem flw_X0_60 : flw RX0 60 1 4 (.boolean) := ⟨RX0, TX0, 6, tyX0, rfl, inA_X0, by decide, w_191, tyX0_ok, nmX0, by decide +kernel, Or.inl rfl⟩
theorem dX0_keep_16 : decode cX0_keep 16 = .ok (.aload_n 0, 1) := by decide +kernel
theorem dX0_keep_17 : decode cX0_keep 17 = .ok (.getfield 12, 3) := by decide +kernel
theorem dX0_keep_20 : decode cX0_keep 20 = .ok (.getfield 25, 3) := by decide +kernel
theorem dX0_keep_23 : decode cX0_keep 23 = .ok (.ireturn, 1) := by decide +kernel
theorem dX10_fault_0 : decode cX10_fault 0 = .ok (.aload_n 0, 1) := by decide +kernel
theorem dX10_fault_1 : decode cX10_fault 1 = .ok (.getfield 12, 3) := by decide +kernel
theorem w_379 : Cond.fieldLink "QuarterWalks" 12 "QuarterWalks" "tape" "LQuarterWalks$Tape;" ∈ wAll := wIn 379 (by decide +kernel) (by decide +kernel)
theorem fl_X10_12 : fl RX10 12 11 0 := ⟨RX10, TX10, 10, rfl, inA_X10, by decide, w_379⟩
theorem dX10_fault_4 : decode cX10_fault 4 = .ok (.invokevirtual 91, 3) := by decide +kernel
theorem w_432 : Cond.methodLink "QuarterWalks" 91 yX7_read ∈ wAll := wIn 432 (by decide +kernel) (by decide +kernel)
theorem w_434 : Cond.selects yX7_read.cls yX7_read yX7_read ∈ wAll := wIn 434 (by decide +kernel) (by decide +kernel)
theorem w_97 : Cond.initialized "QuarterWalks$Tape" ∈ wAll := wIn 97 (by decide +kernel) (by decide +kernel)
theorem mk_X7_read : mk yX7_read 0 := ⟨by decide +kernel, w_97⟩
theorem w_433 : Cond.instanceMethod yX7_read ∈ wAll := wIn 433 (by decide +kernel) (by decide +kernel)
theorem w_435 : Cond.code yX7_read cX7_read 3 (some .int) ∈ wAll := wIn 435 (by decide +kernel) (by decide +kernel)
theorem dX10_fault_7 : decode cX10_fault 7 = .ok (.ireturn, 1) := by decide +kernel
theorem dX10_tell_0 : decode cX10_tell 0 = .ok (.aload_n 0, 1) := by decide +kernel
theorem dX10_tell_1 : decode cX10_tell 1 = .ok (.getfield 12, 3) := by decide +kernel
theorem dX10_tell_4 : decode cX10_tell 4 = .ok (.invokevirtual 91, 3) := by decide +kernel
theorem dX10_tell_7 : decode cX10_tell 7 = .ok (.iconst (-1), 1) := by decide +kernel
theorem dX10_tell_8 : decode cX10_tell 8 = .ok (.if_icmp .eq 9, 3) := by decide +kernel
theorem dX10_tell_11 : decode cX10_tell 11 = .ok (.aload_n 0, 1) := by decide +kernel
theorem dX10_tell_12 : decode cX10_tell 12 = .ok (.iconst 0, 1) := by decide +kernel
theorem dX10_tell_13 : decode cX10_tell 13 = .ok (.invokevirtual 95, 3) := by decide +kernel
theorem dX10_tell_16 : decode cX10_tell 16 = .ok (.ireturn, 1) := by decide +kernel
theorem dX10_undo_0 : decode cX10_undo 0 = .ok (.aload_n 0, 1) := by decide +kernel
theorem dX10_undo_1 : decode cX10_undo 1 = .ok (.getfield 19, 3) := by decide +kernel
theorem dX10_undo_4 : decode cX10_undo 4 = .ok (.invokevirtual 358, 3) := by decide +kernel
theorem w_1289 : Cond.methodLink "QuarterWalks" 358 yX0_takeBack ∈ wAll := wIn 1289 (by decide +kernel) (by decide +kernel)
theorem w_1291 : Cond.selects yX0_takeBack.cls yX0_takeBack yX0_takeBack ∈ wAll := wIn 1291 (by decide +kernel) (by decide +kernel)
theorem mk_X0_takeBack : mk yX0_takeBack 0 := ⟨by decide +kernel, w_98⟩
theorem w_1290 : Cond.instanceMethod yX0_takeBack ∈ wAll := wIn 1290 (by decide +kernel) (by decide +kernel)
theorem w_1292 : Cond.code yX0_takeBack cX0_takeBack 1 (some .int) ∈ wAll := wIn 1292 (by decide +kernel) (by decide +kernel)
theorem dX10_undo_7 : decode cX10_undo 7 = .ok (.ireturn, 1) := by decide +kernel
theorem dX10_back_0 : decode cX10_back 0 = .ok (.aload_n 0, 1) := by decide +kernel
theorem dX10_back_1 : decode cX10_back 1 = .ok (.getfield 19, 3) := by decide +kernel
theorem dX10_back_4 : decode cX10_back 4 = .ok (.invokevirtual 364, 3) := by decide +kernel
theorem w_1305 : Cond.methodLink "QuarterWalks" 364 yX0_restore ∈ wAll := wIn 1305 (by decide +kernel) (by decide +kernel)
theorem w_1307 : Cond.selects yX0_restore.cls yX0_restore yX0_restore ∈ wAll := wIn 1307 (by decide +kernel) (by decide +kernel)
theorem mk_X0_restore : mk yX0_restore 0 := ⟨by decide +kernel, w_98⟩
theorem w_1306 : Cond.instanceMethod yX0_restore ∈ wAll := wIn 1306 (by decide +kernel) (by decide +kernel)
theorem w_1308 : Cond.code yX0_restore cX0_restore 1 (some .int) ∈ wAll := wIn 1308 (by decide +kernel) (by decide +kernel)
theorem dX10_back_7 : decode cX10_back 7 = .ok (.ireturn, 1) := by decide +kernel
theorem dX10_image_0 : decode cX10_image 0 = .ok (.aload_n 0, 1) := by decide +kernel
theorem dX10_image_1 : decode cX10_image 1 = .ok (.getfield 19, 3) := by decide +kernel
theorem dX10_image_4 : decode cX10_image 4 = .ok (.invokevirtual 361, 3) := by decide +kernel
theorem w_1297 : Cond.methodLink "QuarterWalks" 361 yX0_keep ∈ wAll := wIn 1297 (by decide +kernel) (by decide +kernel)
theorem w_1299 : Cond.selects yX0_keep.cls yX0_keep yX0_keep ∈ wAll := wIn 1299 (by decide +kernel) (by decide +kernel)
theorem mk_X0_keep : mk yX0_keep 0 := ⟨by decide +kernel, w_98⟩
theorem w_1298 : Cond.instanceMethod yX0_keep ∈ wAll := wIn 1298 (by decide +kernel) (by decide +kernel)
theorem w_1300 : Cond.code yX0_keep cX0_keep 1 (some .int) ∈ wAll := wIn 1300 (by decide +kernel) (by decide +kernel)
theorem dX10_image_7 : decode cX10_image 7 = .ok (.ireturn, 1) := by decide +kernel
theorem dX10_end_0 : decode cX10_end 0 = .ok (.iload_n 1, 1) := by decide +kernel
theorem dX10_end_1 : decode cX10_end 1 = .ok (.iconst 0, 1) := by decide +kernel
theorem dX10_end_2 : decode cX10_end 2 = .ok (.aload_n 0, 1) := by decide +kernel
theorem dX10_end_3 : decode cX10_end 3 = .ok (.getfield 12, 3) := by decide +kernel
theorem dX10_end_6 : decode cX10_end 6 = .ok (.getfield 79, 3) := by decide +kernel
theorem w_138 : Cond.fieldLink "QuarterWalks" 79 "QuarterWalks$Tape" "length" "I" ∈ wAll := wIn 138 (by decide +kernel) (by decide +kernel)
theorem fl_X10_79 : fl RX10 79 8 0 := ⟨RX7, TX7, 7, rfl, inA_X7, by decide, w_138⟩
theorem dX10_end_9 : decode cX10_end 9 = .ok (.invokestatic 87, 3) := by decide +kernel
theorem dX10_end_12 : decode cX10_end 12 = .ok (.ifCond .ne 5, 3) := by decide +kernel
theorem dX10_end_17 : decode cX10_end 17 = .ok (.aload_n 0, 1) := by decide +kernel
theorem dX10_end_18 : decode cX10_end 18 = .ok (.getfield 12, 3) := by decide +kernel
theorem dX10_end_21 : decode cX10_end 21 = .ok (.iload_n 1, 1) := by decide +kernel
theorem dX10_end_22 : decode cX10_end 22 = .ok (.putfield 79, 3) := by decide +kernel
theorem flw_X10_79 : flw RX10 79 8 0 (.int) := ⟨RX7, TX7, 7, tyX7, rfl, inA_X7, by decide, w_138, tyX7_ok, nmX7, by decide +kernel, Or.inl rfl⟩
theorem dX10_end_25 : decode cX10_end 25 = .ok (.iconst 1, 1) := by decide +kernel
theorem dX10_end_26 : decode cX10_end 26 = .ok (.ireturn, 1) := by decide +kernel
theorem dX10_end_15 : decode cX10_end 15 = .ok (.iconst 0, 1) := by decide +kernel
theorem dX10_end_16 : decode cX10_end 16 = .ok (.ireturn, 1) := by decide +kernel
theorem dX10_status_0 : decode cX10_status 0 = .ok (.iload_n 1, 1) := by decide +kernel
theorem dX10_status_1 : decode cX10_status 1 = .ok (.iconst 0, 1) := by decide +kernel
theorem dX10_status_2 : decode cX10_status 2 = .ok (.aload_n 0, 1) := by decide +kernel
theorem dX10_status_3 : decode cX10_status 3 = .ok (.getfield 60, 3) := by decide +kernel
theorem dX10_status_6 : decode cX10_status 6 = .ok (.arraylength, 1) := by decide +kernel
theorem dX10_status_7 : decode cX10_status 7 = .ok (.iconst 1, 1) := by decide +kernel
theorem dX10_status_8 : decode cX10_status 8 = .ok (.isub, 1) := by decide +kernel
theorem dX10_status_9 : decode cX10_status 9 = .ok (.invokestatic 87, 3) := by decide +kernel
theorem dX10_status_12 : decode cX10_status 12 = .ok (.ifCond .eq 12, 3) := by decide +kernel
theorem dX10_status_24 : decode cX10_status 24 = .ok (.iconst (-1), 1) := by decide +kernel
theorem dX10_status_25 : decode cX10_status 25 = .ok (.ireturn, 1) := by decide +kernel
theorem dX10_status_15 : decode cX10_status 15 = .ok (.aload_n 0, 1) := by decide +kernel
theorem dX10_status_16 : decode cX10_status 16 = .ok (.getfield 60, 3) := by decide +kernel
theorem dX10_status_19 : decode cX10_status 19 = .ok (.iload_n 1, 1) := by decide +kernel
theorem dX10_status_20 : decode cX10_status 20 = .ok (.iaload, 1) := by decide +kernel
theorem dX10_status_21 : decode cX10_status 21 = .ok (.goto 4, 3) := by decide +kernel
theorem dX10_most_0 : decode cX10_most 0 = .ok (.iload_n 1, 1) := by decide +kernel
theorem dX10_most_1 : decode cX10_most 1 = .ok (.iconst 0, 1) := by decide +kernel
theorem dX10_most_2 : decode cX10_most 2 = .ok (.iconst 4, 1) := by decide +kernel
theorem dX10_most_3 : decode cX10_most 3 = .ok (.invokestatic 87, 3) := by decide +kernel
theorem dX10_most_6 : decode cX10_most 6 = .ok (.ifCond .ne 5, 3) := by decide +kernel
theorem dX10_most_11 : decode cX10_most 11 = .ok (.iload_n 1, 1) := by decide +kernel
theorem dX10_most_12 : decode cX10_most 12 = .ok (.iconst 3, 1) := by decide +kernel
theorem dX10_most_13 : decode cX10_most 13 = .ok (.if_icmp .ne 8, 3) := by decide +kernel
theorem dX10_most_21 : decode cX10_most 21 = .ok (.aload_n 0, 1) := by decide +kernel
theorem dX10_most_22 : decode cX10_most 22 = .ok (.getfield 19, 3) := by decide +kernel
theorem dX10_most_25 : decode cX10_most 25 = .ok (.invokevirtual 370, 3) := by decide +kernel
theorem dX10_most_28 : decode cX10_most 28 = .ok (.ifCond .ne 5, 3) := by decide +kernel
theorem dX10_most_31 : decode cX10_most 31 = .ok (.iconst (-1), 1) := by decide +kernel
theorem dX10_most_32 : decode cX10_most 32 = .ok (.ireturn, 1) := by decide +kernel
theorem dX10_most_16 : decode cX10_most 16 = .ok (.aload_n 0, 1) := by decide +kernel
theorem dX10_most_17 : decode cX10_most 17 = .ok (.invokevirtual 367, 3) := by decide +kernel
theorem w_1317 : Cond.methodLink "QuarterWalks" 367 yX10_unlikeSets ∈ wAll := wIn 1317 (by decide +kernel) (by decide +kernel)
theorem w_32 : Cond.selects yX10_unlikeSets.cls yX10_unlikeSets yX10_unlikeSets ∈ wAll := wIn 32 (by decide +kernel) (by decide +kernel)
theorem mk_X10_unlikeSets : mk yX10_unlikeSets 0 := ⟨by decide +kernel, w_96⟩
theorem w_1319 : Cond.instanceMethod yX10_unlikeSets ∈ wAll := wIn 1319 (by decide +kernel) (by decide +kernel)
theorem w_1320 : Cond.code yX10_unlikeSets cX10_unlikeSets 3 (some .int) ∈ wAll := wIn 1320 (by decide +kernel) (by decide +kernel)
theorem dX10_most_20 : decode cX10_most 20 = .ok (.ireturn, 1) := by decide +kernel
theorem dX10_most_9 : decode cX10_most 9 = .ok (.iconst (-1), 1) := by decide +kernel
theorem dX10_most_10 : decode cX10_most 10 = .ok (.ireturn, 1) := by decide +kernel
theorem dX10_count_0 : decode cX10_count 0 = .ok (.iload_n 1, 1) := by decide +kernel
theorem dX10_count_1 : decode cX10_count 1 = .ok (.tableswitch 51 0 2 #[27, 35, 43], 27) := by decide +kernel
theorem sw_0_2 (p : Int32) : p = 0 ∨ p = 1 ∨ p = 2 ∨ (p.toInt < 0 ∨ 2 < p.toInt) := by
  have h : p.toInt = 0 ∨ p.toInt = 1 ∨ p.toInt = 2 ∨ (p.toInt < 0 ∨ 2 < p.toInt) := by omega
  rcases h with h | h | h | h
  · exact Or.inl (Int32.toInt_inj.mp (h.trans rfl))
  · exact Or.inr (Or.inl (Int32.toInt_inj.mp (h.trans rfl)))
  · exact Or.inr (Or.inr (Or.inl (Int32.toInt_inj.mp (h.trans rfl))))
  · exact Or.inr (Or.inr (Or.inr (h)))
theorem dX10_count_28 : decode cX10_count 28 = .ok (.aload_n 0, 1) := by decide +kernel
theorem dX10_count_29 : decode cX10_count 29 = .ok (.getfield 12, 3) := by decide +kernel
theorem dX10_count_32 : decode cX10_count 32 = .ok (.getfield 79, 3) := by decide +kernel
theorem dX10_count_35 : decode cX10_count 35 = .ok (.ireturn, 1) := by decide +kernel
theorem dX10_count_36 : decode cX10_count 36 = .ok (.aload_n 0, 1) := by decide +kernel
theorem dX10_count_37 : decode cX10_count 37 = .ok (.getfield 19, 3) := by decide +kernel
theorem dX10_count_40 : decode cX10_count 40 = .ok (.getfield 379, 3) := by decide +kernel
theorem w_187 : Cond.fieldLink "QuarterWalks" 379 "QuarterWalks$Book" "past" "I" ∈ wAll := wIn 187 (by decide +kernel) (by decide +kernel)
theorem fl_X10_379 : fl RX10 379 1 0 := ⟨RX0, TX0, 6, rfl, inA_X0, by decide, w_187⟩
theorem dX10_count_43 : decode cX10_count 43 = .ok (.ireturn, 1) := by decide +kernel
theorem dX10_count_44 : decode cX10_count 44 = .ok (.aload_n 0, 1) := by decide +kernel
theorem dX10_count_45 : decode cX10_count 45 = .ok (.getfield 19, 3) := by decide +kernel
theorem dX10_count_48 : decode cX10_count 48 = .ok (.invokevirtual 370, 3) := by decide +kernel
theorem dX10_count_51 : decode cX10_count 51 = .ok (.ireturn, 1) := by decide +kernel
theorem dX10_count_52 : decode cX10_count 52 = .ok (.iconst (-1), 1) := by decide +kernel
theorem dX10_count_53 : decode cX10_count 53 = .ok (.ireturn, 1) := by decide +kernel

theorem Vmost_x {p : Int32} (h : wi p 0 4 = 0) : Vmost p = -1 := by
  unfold Vmost
  rw [if_neg]
  intro e
  rw [e] at h
  exact absurd h (by decide)
theorem Vcount_x {p : Int32} (h : p.toInt < 0 ∨ 2 < p.toInt) : Vcount p = -1 := by
  unfold Vcount
  have n0 : p ≠ 0 := fun e => by rw [e] at h; exact absurd h (by decide)
  have n1 : p ≠ 1 := fun e => by rw [e] at h; exact absurd h (by decide)
  have n2 : p ≠ 2 := fun e => by rw [e] at h; exact absurd h (by decide)
  rw [if_neg n0, if_neg n1, if_neg n2]
set_option maxRecDepth 100000 in
set_option maxHeartbeats 4000000 in
theorem c_J7_fill_53178 (l : Launch) (D : va_G) (G : Nat → Nat) (b0 : Nat) (f : hM) (X : Nat → Nat) (hX : xw G f X) : mV l yJ7_fill_53178 cJ7_fill_53178 4 { frames := 0, cells := 0, slots := 0, locals := 0 } D G b0 f [.ref (X 12), .int 0] (fun f1 => f = f1) := by
  refine met_of (own := RJ7) (by decide) rfl (Nat.le_of_ble_eq_true rfl) ?_
  intro p e s m below meth c ls C hr hini hl h
  have hl : lv_has ls 4 [(0, .ref (X 12)), (1, .int 0)] := hl
  obtain ⟨hx, hb, hml, hown, hts, hE0, hlk⟩ := id C
  obtain ⟨kx0, kx1, kx2, kx3, kx4, kx5, kx6, kx7, kx8, kx9⟩ := hX
  refine lv_iconst (v := 0) hx hb dJ7_fill_53178_0 (by decide) ?_
  refine lv_istore_n (lv' := [(2, .int 0), (0, .ref (X 12)), (1, .int 0)]) hx hb dJ7_fill_53178_1 rfl hl (by decide) rfl (fun ls hl => ?_)
  refine lv_aload_n hx hb dJ7_fill_53178_2 rfl (lv_at hl 1 rfl) ?_
  refine q_alen C h 1 rfl kx5 (v := 8) rfl dJ7_fill_53178_3 ?_
  refine lv_istore_n (lv' := [(3, .int 8), (2, .int 0), (0, .ref (X 12)), (1, .int 0)]) hx hb dJ7_fill_53178_4 rfl hl (by decide) rfl (fun ls hl => ?_)
  refine lv_iload_n hx hb dJ7_fill_53178_5 rfl (lv_at hl 1 rfl) ?_
  refine lv_iload_n hx hb dJ7_fill_53178_6 rfl (lv_at hl 0 rfl) ?_
  refine lv_icmp_ge (tgt := 20) hx hb dJ7_fill_53178_7 (by decide) (fun c_697 => ?_) (fun c_697 => ?_)
  · exact absurd c_697 (by decide)
  · refine lv_aload_n hx hb dJ7_fill_53178_10 rfl (lv_at hl 2 rfl) ?_
    refine lv_iload_n hx hb dJ7_fill_53178_11 rfl (lv_at hl 1 rfl) ?_
    refine lv_iload_n hx hb dJ7_fill_53178_12 rfl (lv_at hl 3 rfl) ?_
    refine q_iast C h kx5 (by unfold vp_in; decide) dJ7_fill_53178_13 (fun H locs h => ?_)
    rw [upd0] at h
    rw [hu_id kx5] at h
    refine lv_iinc (v := 1) (lv' := [(2, .int 1), (3, .int 8), (0, .ref (X 12)), (1, .int 0)]) hx hb dJ7_fill_53178_14 hl (k := 1) rfl (by decide) (by decide) rfl (fun ls hl => ?_)
    refine lv_goto (tgt := 5) hx hb dJ7_fill_53178_17 (by decide) ?_
    refine lv_iload_n hx hb dJ7_fill_53178_5 rfl (lv_at hl 0 rfl) ?_
    refine lv_iload_n hx hb dJ7_fill_53178_6 rfl (lv_at hl 1 rfl) ?_
    refine lv_icmp_ge (tgt := 20) hx hb dJ7_fill_53178_7 (by decide) (fun c_699 => ?_) (fun c_699 => ?_)
    · exact absurd c_699 (by decide)
    · refine lv_aload_n hx hb dJ7_fill_53178_10 rfl (lv_at hl 2 rfl) ?_
      refine lv_iload_n hx hb dJ7_fill_53178_11 rfl (lv_at hl 0 rfl) ?_
      refine lv_iload_n hx hb dJ7_fill_53178_12 rfl (lv_at hl 3 rfl) ?_
      refine q_iast C h kx5 (by unfold vp_in; decide) dJ7_fill_53178_13 (fun H locs h => ?_)
      rw [upd0] at h
      rw [hu_id kx5] at h
      refine lv_iinc (v := 2) (lv' := [(2, .int 2), (3, .int 8), (0, .ref (X 12)), (1, .int 0)]) hx hb dJ7_fill_53178_14 hl (k := 0) rfl (by decide) (by decide) rfl (fun ls hl => ?_)
      refine lv_goto (tgt := 5) hx hb dJ7_fill_53178_17 (by decide) ?_
      refine lv_iload_n hx hb dJ7_fill_53178_5 rfl (lv_at hl 0 rfl) ?_
      refine lv_iload_n hx hb dJ7_fill_53178_6 rfl (lv_at hl 1 rfl) ?_
      refine lv_icmp_ge (tgt := 20) hx hb dJ7_fill_53178_7 (by decide) (fun c_701 => ?_) (fun c_701 => ?_)
      · exact absurd c_701 (by decide)
      · refine lv_aload_n hx hb dJ7_fill_53178_10 rfl (lv_at hl 2 rfl) ?_
        refine lv_iload_n hx hb dJ7_fill_53178_11 rfl (lv_at hl 0 rfl) ?_
        refine lv_iload_n hx hb dJ7_fill_53178_12 rfl (lv_at hl 3 rfl) ?_
        refine q_iast C h kx5 (by unfold vp_in; decide) dJ7_fill_53178_13 (fun H locs h => ?_)
        rw [upd0] at h
        rw [hu_id kx5] at h
        refine lv_iinc (v := 3) (lv' := [(2, .int 3), (3, .int 8), (0, .ref (X 12)), (1, .int 0)]) hx hb dJ7_fill_53178_14 hl (k := 0) rfl (by decide) (by decide) rfl (fun ls hl => ?_)
        refine lv_goto (tgt := 5) hx hb dJ7_fill_53178_17 (by decide) ?_
        refine lv_iload_n hx hb dJ7_fill_53178_5 rfl (lv_at hl 0 rfl) ?_
        refine lv_iload_n hx hb dJ7_fill_53178_6 rfl (lv_at hl 1 rfl) ?_
        refine lv_icmp_ge (tgt := 20) hx hb dJ7_fill_53178_7 (by decide) (fun c_703 => ?_) (fun c_703 => ?_)
        · exact absurd c_703 (by decide)
        · refine lv_aload_n hx hb dJ7_fill_53178_10 rfl (lv_at hl 2 rfl) ?_
          refine lv_iload_n hx hb dJ7_fill_53178_11 rfl (lv_at hl 0 rfl) ?_
          refine lv_iload_n hx hb dJ7_fill_53178_12 rfl (lv_at hl 3 rfl) ?_
          refine q_iast C h kx5 (by unfold vp_in; decide) dJ7_fill_53178_13 (fun H locs h => ?_)
          rw [upd0] at h
          rw [hu_id kx5] at h
          refine lv_iinc (v := 4) (lv' := [(2, .int 4), (3, .int 8), (0, .ref (X 12)), (1, .int 0)]) hx hb dJ7_fill_53178_14 hl (k := 0) rfl (by decide) (by decide) rfl (fun ls hl => ?_)
          refine lv_goto (tgt := 5) hx hb dJ7_fill_53178_17 (by decide) ?_
          refine lv_iload_n hx hb dJ7_fill_53178_5 rfl (lv_at hl 0 rfl) ?_
          refine lv_iload_n hx hb dJ7_fill_53178_6 rfl (lv_at hl 1 rfl) ?_
          refine lv_icmp_ge (tgt := 20) hx hb dJ7_fill_53178_7 (by decide) (fun c_705 => ?_) (fun c_705 => ?_)
          · exact absurd c_705 (by decide)
          · refine lv_aload_n hx hb dJ7_fill_53178_10 rfl (lv_at hl 2 rfl) ?_
            refine lv_iload_n hx hb dJ7_fill_53178_11 rfl (lv_at hl 0 rfl) ?_
            refine lv_iload_n hx hb dJ7_fill_53178_12 rfl (lv_at hl 3 rfl) ?_
            refine q_iast C h kx5 (by unfold vp_in; decide) dJ7_fill_53178_13 (fun H locs h => ?_)
            rw [upd0] at h
            rw [hu_id kx5] at h
            refine lv_iinc (v := 5) (lv' := [(2, .int 5), (3, .int 8), (0, .ref (X 12)), (1, .int 0)]) hx hb dJ7_fill_53178_14 hl (k := 0) rfl (by decide) (by decide) rfl (fun ls hl => ?_)
            refine lv_goto (tgt := 5) hx hb dJ7_fill_53178_17 (by decide) ?_
            refine lv_iload_n hx hb dJ7_fill_53178_5 rfl (lv_at hl 0 rfl) ?_
            refine lv_iload_n hx hb dJ7_fill_53178_6 rfl (lv_at hl 1 rfl) ?_
            refine lv_icmp_ge (tgt := 20) hx hb dJ7_fill_53178_7 (by decide) (fun c_707 => ?_) (fun c_707 => ?_)
            · exact absurd c_707 (by decide)
            · refine lv_aload_n hx hb dJ7_fill_53178_10 rfl (lv_at hl 2 rfl) ?_
              refine lv_iload_n hx hb dJ7_fill_53178_11 rfl (lv_at hl 0 rfl) ?_
              refine lv_iload_n hx hb dJ7_fill_53178_12 rfl (lv_at hl 3 rfl) ?_
              refine q_iast C h kx5 (by unfold vp_in; decide) dJ7_fill_53178_13 (fun H locs h => ?_)
              rw [upd0] at h
              rw [hu_id kx5] at h
              refine lv_iinc (v := 6) (lv' := [(2, .int 6), (3, .int 8), (0, .ref (X 12)), (1, .int 0)]) hx hb dJ7_fill_53178_14 hl (k := 0) rfl (by decide) (by decide) rfl (fun ls hl => ?_)
              refine lv_goto (tgt := 5) hx hb dJ7_fill_53178_17 (by decide) ?_
              refine lv_iload_n hx hb dJ7_fill_53178_5 rfl (lv_at hl 0 rfl) ?_
              refine lv_iload_n hx hb dJ7_fill_53178_6 rfl (lv_at hl 1 rfl) ?_
              refine lv_icmp_ge (tgt := 20) hx hb dJ7_fill_53178_7 (by decide) (fun c_709 => ?_) (fun c_709 => ?_)
              · exact absurd c_709 (by decide)
              · refine lv_aload_n hx hb dJ7_fill_53178_10 rfl (lv_at hl 2 rfl) ?_
                refine lv_iload_n hx hb dJ7_fill_53178_11 rfl (lv_at hl 0 rfl) ?_
                refine lv_iload_n hx hb dJ7_fill_53178_12 rfl (lv_at hl 3 rfl) ?_
                refine q_iast C h kx5 (by unfold vp_in; decide) dJ7_fill_53178_13 (fun H locs h => ?_)
                rw [upd0] at h
                rw [hu_id kx5] at h
                refine lv_iinc (v := 7) (lv' := [(2, .int 7), (3, .int 8), (0, .ref (X 12)), (1, .int 0)]) hx hb dJ7_fill_53178_14 hl (k := 0) rfl (by decide) (by decide) rfl (fun ls hl => ?_)
                refine lv_goto (tgt := 5) hx hb dJ7_fill_53178_17 (by decide) ?_
                refine lv_iload_n hx hb dJ7_fill_53178_5 rfl (lv_at hl 0 rfl) ?_
                refine lv_iload_n hx hb dJ7_fill_53178_6 rfl (lv_at hl 1 rfl) ?_
                refine lv_icmp_ge (tgt := 20) hx hb dJ7_fill_53178_7 (by decide) (fun c_711 => ?_) (fun c_711 => ?_)
                · exact absurd c_711 (by decide)
                · refine lv_aload_n hx hb dJ7_fill_53178_10 rfl (lv_at hl 2 rfl) ?_
                  refine lv_iload_n hx hb dJ7_fill_53178_11 rfl (lv_at hl 0 rfl) ?_
                  refine lv_iload_n hx hb dJ7_fill_53178_12 rfl (lv_at hl 3 rfl) ?_
                  refine q_iast C h kx5 (by unfold vp_in; decide) dJ7_fill_53178_13 (fun H locs h => ?_)
                  rw [upd0] at h
                  rw [hu_id kx5] at h
                  refine lv_iinc (v := 8) (lv' := [(2, .int 8), (3, .int 8), (0, .ref (X 12)), (1, .int 0)]) hx hb dJ7_fill_53178_14 hl (k := 0) rfl (by decide) (by decide) rfl (fun ls hl => ?_)
                  refine lv_goto (tgt := 5) hx hb dJ7_fill_53178_17 (by decide) ?_
                  refine lv_iload_n hx hb dJ7_fill_53178_5 rfl (lv_at hl 0 rfl) ?_
                  refine lv_iload_n hx hb dJ7_fill_53178_6 rfl (lv_at hl 1 rfl) ?_
                  refine lv_icmp_ge (tgt := 20) hx hb dJ7_fill_53178_7 (by decide) (fun c_713 => ?_) (fun c_713 => ?_)
                  · exact q_vret C h hr (rfl) (Nat.le_of_ble_eq_true rfl) (Nat.le_of_ble_eq_true rfl) dJ7_fill_53178_20
                  · exact absurd c_713 (by decide)
set_option maxRecDepth 100000 in
set_option maxHeartbeats 4000000 in
theorem c_X7_read (l : Launch) (D : va_G) (G : Nat → Nat) (b0 : Nat) (f : hM) (X : Nat → Nat) (hX : xw G f X) : mI l yX7_read cX7_read 3 (.int) { frames := 1, cells := 0, slots := 0, locals := 23 } D G b0 f [.ref (X 1)] (fun r f1 => (0 : Int32) = r ∧ f = f1) := by
  refine met_of (own := RX7) (by decide) rfl (Nat.le_of_ble_eq_true rfl) ?_
  intro p e s m below meth c ls C hr hini hl h
  have hl : lv_has ls 3 [(0, .ref (X 1))] := hl
  obtain ⟨hx, hb, hml, hown, hts, hE0, hlk⟩ := id C
  obtain ⟨kx0, kx1, kx2, kx3, kx4, kx5, kx6, kx7, kx8, kx9⟩ := hX
  refine lv_aload_n hx hb dX7_read_0 rfl (lv_at hl 0 rfl) ?_
  refine q_get C h kx1 fl_X7_15 (v := .ref (X 12)) rfl dX7_read_1 ?_
  refine lv_iconst (v := 0) hx hb dX7_read_4 (by decide) ?_
  refine k_v (r_S C h hl (As := [.ref (X 12), .int 0]) (rest := []) (c_J7_fill_53178 l D G b0 f X ⟨kx0, kx1, kx2, kx3, kx4, kx5, kx6, kx7, kx8, kx9⟩) mk_J7_fill_53178 w_436 w_437 w_438 ⟨Nat.le_of_ble_eq_true rfl, Nat.le_of_ble_eq_true rfl⟩ rfl (Nat.le_of_ble_eq_true rfl) ⟨Nat.le_of_ble_eq_true rfl, Nat.le_of_ble_eq_true rfl⟩ rfl dX7_read_5) h (fun f_715 H locs p_716 h => ?_)
  obtain rfl := p_716
  refine lv_aload_n hx hb dX7_read_8 rfl (lv_at hl 0 rfl) ?_
  refine lv_iconst (v := 0) hx hb dX7_read_9 (by decide) ?_
  refine q_put C h kx1 flw_X7_24 (Or.inr ⟨_, _, _, rfl, rfl⟩) (v := .int 0) rfl rfl (Nat.le_of_ble_eq_true rfl) dX7_read_10 (fun H locs h => ?_)
  have h : hw D b0 s.heap (hu f (X 1) (.inr (8, [.int 0, .ref (X 11), .ref (X 12), .int 0, .int 0, .int 0, .int 0]))) H locs := h
  rw [hu_id kx1] at h
  refine lv_aload_n hx hb dX7_read_13 rfl (lv_at hl 0 rfl) ?_
  refine lv_iconst (v := 0) hx hb dX7_read_14 (by decide) ?_
  refine q_put C h kx1 flw_X7_27 (Or.inr ⟨_, _, _, rfl, rfl⟩) (v := .int 0) rfl rfl (Nat.le_of_ble_eq_true rfl) dX7_read_15 (fun H locs h => ?_)
  have h : hw D b0 s.heap (hu f (X 1) (.inr (8, [.int 0, .ref (X 11), .ref (X 12), .int 0, .int 0, .int 0, .int 0]))) H locs := h
  rw [hu_id kx1] at h
  refine lv_aload_n hx hb dX7_read_18 rfl (lv_at hl 0 rfl) ?_
  refine lv_iconst (v := 0) hx hb dX7_read_19 (by decide) ?_
  refine q_put C h kx1 flw_X7_39 (Or.inr ⟨_, _, _, rfl, rfl⟩) (v := .int 0) rfl rfl (Nat.le_of_ble_eq_true rfl) dX7_read_20 (fun H locs h => ?_)
  have h : hw D b0 s.heap (hu f (X 1) (.inr (8, [.int 0, .ref (X 11), .ref (X 12), .int 0, .int 0, .int 0, .int 0]))) H locs := h
  rw [hu_id kx1] at h
  refine lv_aload_n hx hb dX7_read_23 rfl (lv_at hl 0 rfl) ?_
  refine lv_iconst (v := 0) hx hb dX7_read_24 (by decide) ?_
  refine q_put C h kx1 flw_X7_42 (Or.inr ⟨_, _, _, rfl, rfl⟩) (v := .int 0) rfl rfl (Nat.le_of_ble_eq_true rfl) dX7_read_25 (fun H locs h => ?_)
  have h : hw D b0 s.heap (hu f (X 1) (.inr (8, [.int 0, .ref (X 11), .ref (X 12), .int 0, .int 0, .int 0, .int 0]))) H locs := h
  rw [hu_id kx1] at h
  refine lv_iconst (v := 0) hx hb dX7_read_28 (by decide) ?_
  refine lv_istore_n (lv' := [(1, .int 0), (0, .ref (X 1))]) hx hb dX7_read_29 rfl hl (by decide) rfl (fun ls hl => ?_)
  refine lv_iconst (v := 0) hx hb dX7_read_30 (by decide) ?_
  refine lv_istore_n (lv' := [(2, .int 0), (1, .int 0), (0, .ref (X 1))]) hx hb dX7_read_31 rfl hl (by decide) rfl (fun ls hl => ?_)
  refine lv_iload_n hx hb dX7_read_32 rfl (lv_at hl 0 rfl) ?_
  refine lv_aload_n hx hb dX7_read_33 rfl (lv_at hl 2 rfl) ?_
  refine q_get C h kx1 fl_X7_18 (v := .int 0) rfl dX7_read_34 ?_
  refine lv_icmp_ge (tgt := 79) hx hb dX7_read_37 (by decide) (fun c_717 => ?_) (fun c_717 => ?_)
  · refine lv_aload_n hx hb dX7_read_79 rfl (lv_at hl 2 rfl) ?_
    refine q_get C h kx1 fl_X7_39 (v := .int 0) rfl dX7_read_80 ?_
    refine lv_iconst (v := 1) hx hb dX7_read_83 (by decide) ?_
    refine lv_icmp_eq (tgt := 104) hx hb dX7_read_84 (by decide) (fun c_718 => ?_) (fun c_718 => ?_)
    · exact absurd c_718 (by decide)
    · refine lv_aload_n hx hb dX7_read_87 rfl (lv_at hl 2 rfl) ?_
      refine q_get C h kx1 fl_X7_39 (v := .int 0) rfl dX7_read_88 ?_
      refine lv_iconst (v := 2) hx hb dX7_read_91 (by decide) ?_
      refine lv_icmp_eq (tgt := 104) hx hb dX7_read_92 (by decide) (fun c_719 => ?_) (fun c_719 => ?_)
      · exact absurd c_719 (by decide)
      · refine lv_aload_n hx hb dX7_read_95 rfl (lv_at hl 2 rfl) ?_
        refine q_get C h kx1 fl_X7_39 (v := .int 0) rfl dX7_read_96 ?_
        refine lv_bipush (v := 6) hx hb dX7_read_99 (by decide) ?_
        refine lv_icmp_ne (tgt := 108) hx hb dX7_read_101 (by decide) (fun c_720 => ?_) (fun c_720 => ?_)
        · refine lv_aload_n hx hb dX7_read_108 rfl (lv_at hl 2 rfl) ?_
          refine q_get C h kx1 fl_X7_18 (v := .int 0) rfl dX7_read_109 ?_
          exact q_iret C h hr (⟨rfl, rfl⟩) (Nat.le_of_ble_eq_true rfl) (Nat.le_of_ble_eq_true rfl) dX7_read_112
        · exact absurd c_720 (by decide)
  · exact absurd c_717 (by decide)
set_option maxRecDepth 100000 in
set_option maxHeartbeats 4000000 in
theorem c_X0_size (l : Launch) (D : va_G) (G : Nat → Nat) (b0 : Nat) (f : hM) (X : Nat → Nat) (hX : xw G f X) : mI l yX0_size cX0_size 1 (.int) { frames := 0, cells := 0, slots := 0, locals := 0 } D G b0 f [.ref (X 2)] (fun r f1 => (0 : Int32) = r ∧ f = f1) := by
  refine met_of (own := RX0) (by decide) rfl (Nat.le_of_ble_eq_true rfl) ?_
  intro p e s m below meth c ls C hr hini hl h
  have hl : lv_has ls 1 [(0, .ref (X 2))] := hl
  obtain ⟨hx, hb, hml, hown, hts, hE0, hlk⟩ := id C
  obtain ⟨kx0, kx1, kx2, kx3, kx4, kx5, kx6, kx7, kx8, kx9⟩ := hX
  refine lv_aload_n hx hb dX0_size_0 rfl (lv_at hl 0 rfl) ?_
  refine q_get C h kx2 fl_X0_12 (v := .ref (X 13)) rfl dX0_size_1 ?_
  refine q_get C h kx6 fl_X0_25 (v := .int 0) rfl dX0_size_4 ?_
  exact q_iret C h hr (⟨rfl, rfl⟩) (Nat.le_of_ble_eq_true rfl) (Nat.le_of_ble_eq_true rfl) dX0_size_7
set_option maxRecDepth 100000 in
set_option maxHeartbeats 4000000 in
theorem c_X10_unlikeSets (l : Launch) (D : va_G) (G : Nat → Nat) (b0 : Nat) (f : hM) (X : Nat → Nat) (hX : xw G f X) : mI l yX10_unlikeSets cX10_unlikeSets 3 (.int) { frames := 1, cells := 0, slots := 0, locals := 20 } D G b0 f [.ref (X 0)] (fun r f1 => (0 : Int32) = r ∧ f = f1) := by
  refine met_of (own := RX10) (by decide) rfl (Nat.le_of_ble_eq_true rfl) ?_
  intro p e s m below meth c ls C hr hini hl h
  have hl : lv_has ls 3 [(0, .ref (X 0))] := hl
  obtain ⟨hx, hb, hml, hown, hts, hE0, hlk⟩ := id C
  obtain ⟨kx0, kx1, kx2, kx3, kx4, kx5, kx6, kx7, kx8, kx9⟩ := hX
  refine lv_iconst (v := 0) hx hb dX10_unlikeSets_0 (by decide) ?_
  refine lv_istore_n (lv' := [(1, .int 0), (0, .ref (X 0))]) hx hb dX10_unlikeSets_1 rfl hl (by decide) rfl (fun ls hl => ?_)
  refine lv_iconst (v := 0) hx hb dX10_unlikeSets_2 (by decide) ?_
  refine lv_istore_n (lv' := [(2, .int 0), (1, .int 0), (0, .ref (X 0))]) hx hb dX10_unlikeSets_3 rfl hl (by decide) rfl (fun ls hl => ?_)
  refine lv_iload_n hx hb dX10_unlikeSets_4 rfl (lv_at hl 0 rfl) ?_
  refine lv_aload_n hx hb dX10_unlikeSets_5 rfl (lv_at hl 2 rfl) ?_
  refine q_get C h kx0 fl_X10_19 (v := .ref (X 2)) rfl dX10_unlikeSets_6 ?_
  refine k_i (r_V C h hl (As := []) (rest := [.int 0]) (c_X0_size l D G b0 f X ⟨kx0, kx1, kx2, kx3, kx4, kx5, kx6, kx7, kx8, kx9⟩ ) kx2 (Cn := RX0) (T := TX0) (N := 6) rfl rfl mk_X0_size w_1321 w_1322 w_1323 w_1324 ⟨Nat.le_of_ble_eq_true rfl, Nat.le_of_ble_eq_true rfl⟩ rfl (Nat.le_of_ble_eq_true rfl) ⟨Nat.le_of_ble_eq_true rfl, Nat.le_of_ble_eq_true rfl⟩ rfl dX10_unlikeSets_9) h (fun r_721 f_722 H locs p_723 h => ?_)
  obtain ⟨e_, rfl⟩ := p_723
  subst e_
  refine lv_icmp_ge (tgt := 32) hx hb dX10_unlikeSets_12 (by decide) (fun c_724 => ?_) (fun c_724 => ?_)
  · refine lv_iload_n hx hb dX10_unlikeSets_32 rfl (lv_at hl 1 rfl) ?_
    exact q_iret C h hr (⟨rfl, rfl⟩) (Nat.le_of_ble_eq_true rfl) (Nat.le_of_ble_eq_true rfl) dX10_unlikeSets_33
  · exact absurd c_724 (by decide)
set_option maxRecDepth 100000 in
set_option maxHeartbeats 4000000 in
theorem c_X0_takeBack (l : Launch) (D : va_G) (G : Nat → Nat) (b0 : Nat) (f : hM) (X : Nat → Nat) (hX : xw G f X) : mI l yX0_takeBack cX0_takeBack 1 (.int) { frames := 0, cells := 0, slots := 0, locals := 0 } D G b0 f [.ref (X 2)] (fun r f1 => (-1 : Int32) = r ∧ f = f1) := by
  refine met_of (own := RX0) (by decide) rfl (Nat.le_of_ble_eq_true rfl) ?_
  intro p e s m below meth c ls C hr hini hl h
  have hl : lv_has ls 1 [(0, .ref (X 2))] := hl
  obtain ⟨hx, hb, hml, hown, hts, hE0, hlk⟩ := id C
  obtain ⟨kx0, kx1, kx2, kx3, kx4, kx5, kx6, kx7, kx8, kx9⟩ := hX
  refine lv_aload_n hx hb dX0_takeBack_0 rfl (lv_at hl 0 rfl) ?_
  refine q_get C h kx2 fl_X0_51 (v := .int 0) rfl dX0_takeBack_1 ?_
  refine lv_if_ne (tgt := 9) hx hb dX0_takeBack_4 (by decide) (fun c_725 => ?_) (fun c_725 => ?_)
  · exact absurd c_725 (by decide)
  · refine lv_iconst (v := -1) hx hb dX0_takeBack_7 (by decide) ?_
    exact q_iret C h hr (⟨rfl, rfl⟩) (Nat.le_of_ble_eq_true rfl) (Nat.le_of_ble_eq_true rfl) dX0_takeBack_8
set_option maxRecDepth 100000 in
set_option maxHeartbeats 4000000 in
theorem c_X0_restore (l : Launch) (D : va_G) (G : Nat → Nat) (b0 : Nat) (f : hM) (X : Nat → Nat) (hX : xw G f X) : mI l yX0_restore cX0_restore 1 (.int) { frames := 0, cells := 0, slots := 0, locals := 0 } D G b0 f [.ref (X 2)] (fun r f1 => (-1 : Int32) = r ∧ f = f1) := by
  refine met_of (own := RX0) (by decide) rfl (Nat.le_of_ble_eq_true rfl) ?_
  intro p e s m below meth c ls C hr hini hl h
  have hl : lv_has ls 1 [(0, .ref (X 2))] := hl
  obtain ⟨hx, hb, hml, hown, hts, hE0, hlk⟩ := id C
  obtain ⟨kx0, kx1, kx2, kx3, kx4, kx5, kx6, kx7, kx8, kx9⟩ := hX
  refine lv_aload_n hx hb dX0_restore_0 rfl (lv_at hl 0 rfl) ?_
  refine q_get C h kx2 fl_X0_60 (v := .int 0) rfl dX0_restore_1 ?_
  refine lv_if_ne (tgt := 9) hx hb dX0_restore_4 (by decide) (fun c_726 => ?_) (fun c_726 => ?_)
  · exact absurd c_726 (by decide)
  · refine lv_iconst (v := -1) hx hb dX0_restore_7 (by decide) ?_
    exact q_iret C h hr (⟨rfl, rfl⟩) (Nat.le_of_ble_eq_true rfl) (Nat.le_of_ble_eq_true rfl) dX0_restore_8
set_option maxRecDepth 100000 in
set_option maxHeartbeats 4000000 in
theorem c_X5_copy (l : Launch) (D : va_G) (G : Nat → Nat) (b0 : Nat) (f : hM) (X : Nat → Nat) (hX : xw G f X) : mV l yX5_copy cX5_copy 3 { frames := 0, cells := 0, slots := 0, locals := 0 } D G b0 f [.ref (X 14), .ref (X 13)] (fun f1 => f = f1) := by
  refine met_of (own := RX5) (by decide) rfl (Nat.le_of_ble_eq_true rfl) ?_
  intro p e s m below meth c ls C hr hini hl h
  have hl : lv_has ls 3 [(0, .ref (X 14)), (1, .ref (X 13))] := hl
  obtain ⟨hx, hb, hml, hown, hts, hE0, hlk⟩ := id C
  obtain ⟨kx0, kx1, kx2, kx3, kx4, kx5, kx6, kx7, kx8, kx9⟩ := hX
  refine lv_iconst (v := 0) hx hb dX5_copy_0 (by decide) ?_
  refine lv_istore_n (lv' := [(2, .int 0), (0, .ref (X 14)), (1, .ref (X 13))]) hx hb dX5_copy_1 rfl hl (by decide) rfl (fun ls hl => ?_)
  refine lv_iload_n hx hb dX5_copy_2 rfl (lv_at hl 0 rfl) ?_
  refine lv_bipush (v := 8) hx hb dX5_copy_3 (by decide) ?_
  refine lv_icmp_ge (tgt := 26) hx hb dX5_copy_5 (by decide) (fun c_727 => ?_) (fun c_727 => ?_)
  · exact absurd c_727 (by decide)
  · refine lv_aload_n hx hb dX5_copy_8 rfl (lv_at hl 1 rfl) ?_
    refine q_get C h kx7 fl_X5_11 (v := .ref (X 17)) rfl dX5_copy_9 ?_
    refine lv_iload_n hx hb dX5_copy_12 rfl (lv_at hl 0 rfl) ?_
    refine lv_aload_n hx hb dX5_copy_13 rfl (lv_at hl 2 rfl) ?_
    refine q_get C h kx6 fl_X5_11 (v := .ref (X 16)) rfl dX5_copy_14 ?_
    refine lv_iload_n hx hb dX5_copy_17 rfl (lv_at hl 0 rfl) ?_
    refine q_aald C h 4 rfl kx8 (by unfold vp_in; decide) dX5_copy_18 ?_
    refine q_aastN C h 4 rfl kx9 (by unfold vp_in; decide) dX5_copy_19 (fun H locs h => ?_)
    rw [upn0] at h
    rw [hu_id kx9] at h
    refine lv_iinc (v := 1) (lv' := [(2, .int 1), (0, .ref (X 14)), (1, .ref (X 13))]) hx hb dX5_copy_20 hl (k := 0) rfl (by decide) (by decide) rfl (fun ls hl => ?_)
    refine lv_goto (tgt := 2) hx hb dX5_copy_23 (by decide) ?_
    refine lv_iload_n hx hb dX5_copy_2 rfl (lv_at hl 0 rfl) ?_
    refine lv_bipush (v := 8) hx hb dX5_copy_3 (by decide) ?_
    refine lv_icmp_ge (tgt := 26) hx hb dX5_copy_5 (by decide) (fun c_728 => ?_) (fun c_728 => ?_)
    · exact absurd c_728 (by decide)
    · refine lv_aload_n hx hb dX5_copy_8 rfl (lv_at hl 1 rfl) ?_
      refine q_get C h kx7 fl_X5_11 (v := .ref (X 17)) rfl dX5_copy_9 ?_
      refine lv_iload_n hx hb dX5_copy_12 rfl (lv_at hl 0 rfl) ?_
      refine lv_aload_n hx hb dX5_copy_13 rfl (lv_at hl 2 rfl) ?_
      refine q_get C h kx6 fl_X5_11 (v := .ref (X 16)) rfl dX5_copy_14 ?_
      refine lv_iload_n hx hb dX5_copy_17 rfl (lv_at hl 0 rfl) ?_
      refine q_aald C h 4 rfl kx8 (by unfold vp_in; decide) dX5_copy_18 ?_
      refine q_aastN C h 4 rfl kx9 (by unfold vp_in; decide) dX5_copy_19 (fun H locs h => ?_)
      rw [upn0] at h
      rw [hu_id kx9] at h
      refine lv_iinc (v := 2) (lv' := [(2, .int 2), (0, .ref (X 14)), (1, .ref (X 13))]) hx hb dX5_copy_20 hl (k := 0) rfl (by decide) (by decide) rfl (fun ls hl => ?_)
      refine lv_goto (tgt := 2) hx hb dX5_copy_23 (by decide) ?_
      refine lv_iload_n hx hb dX5_copy_2 rfl (lv_at hl 0 rfl) ?_
      refine lv_bipush (v := 8) hx hb dX5_copy_3 (by decide) ?_
      refine lv_icmp_ge (tgt := 26) hx hb dX5_copy_5 (by decide) (fun c_729 => ?_) (fun c_729 => ?_)
      · exact absurd c_729 (by decide)
      · refine lv_aload_n hx hb dX5_copy_8 rfl (lv_at hl 1 rfl) ?_
        refine q_get C h kx7 fl_X5_11 (v := .ref (X 17)) rfl dX5_copy_9 ?_
        refine lv_iload_n hx hb dX5_copy_12 rfl (lv_at hl 0 rfl) ?_
        refine lv_aload_n hx hb dX5_copy_13 rfl (lv_at hl 2 rfl) ?_
        refine q_get C h kx6 fl_X5_11 (v := .ref (X 16)) rfl dX5_copy_14 ?_
        refine lv_iload_n hx hb dX5_copy_17 rfl (lv_at hl 0 rfl) ?_
        refine q_aald C h 4 rfl kx8 (by unfold vp_in; decide) dX5_copy_18 ?_
        refine q_aastN C h 4 rfl kx9 (by unfold vp_in; decide) dX5_copy_19 (fun H locs h => ?_)
        rw [upn0] at h
        rw [hu_id kx9] at h
        refine lv_iinc (v := 3) (lv' := [(2, .int 3), (0, .ref (X 14)), (1, .ref (X 13))]) hx hb dX5_copy_20 hl (k := 0) rfl (by decide) (by decide) rfl (fun ls hl => ?_)
        refine lv_goto (tgt := 2) hx hb dX5_copy_23 (by decide) ?_
        refine lv_iload_n hx hb dX5_copy_2 rfl (lv_at hl 0 rfl) ?_
        refine lv_bipush (v := 8) hx hb dX5_copy_3 (by decide) ?_
        refine lv_icmp_ge (tgt := 26) hx hb dX5_copy_5 (by decide) (fun c_730 => ?_) (fun c_730 => ?_)
        · exact absurd c_730 (by decide)
        · refine lv_aload_n hx hb dX5_copy_8 rfl (lv_at hl 1 rfl) ?_
          refine q_get C h kx7 fl_X5_11 (v := .ref (X 17)) rfl dX5_copy_9 ?_
          refine lv_iload_n hx hb dX5_copy_12 rfl (lv_at hl 0 rfl) ?_
          refine lv_aload_n hx hb dX5_copy_13 rfl (lv_at hl 2 rfl) ?_
          refine q_get C h kx6 fl_X5_11 (v := .ref (X 16)) rfl dX5_copy_14 ?_
          refine lv_iload_n hx hb dX5_copy_17 rfl (lv_at hl 0 rfl) ?_
          refine q_aald C h 4 rfl kx8 (by unfold vp_in; decide) dX5_copy_18 ?_
          refine q_aastN C h 4 rfl kx9 (by unfold vp_in; decide) dX5_copy_19 (fun H locs h => ?_)
          rw [upn0] at h
          rw [hu_id kx9] at h
          refine lv_iinc (v := 4) (lv' := [(2, .int 4), (0, .ref (X 14)), (1, .ref (X 13))]) hx hb dX5_copy_20 hl (k := 0) rfl (by decide) (by decide) rfl (fun ls hl => ?_)
          refine lv_goto (tgt := 2) hx hb dX5_copy_23 (by decide) ?_
          refine lv_iload_n hx hb dX5_copy_2 rfl (lv_at hl 0 rfl) ?_
          refine lv_bipush (v := 8) hx hb dX5_copy_3 (by decide) ?_
          refine lv_icmp_ge (tgt := 26) hx hb dX5_copy_5 (by decide) (fun c_731 => ?_) (fun c_731 => ?_)
          · exact absurd c_731 (by decide)
          · refine lv_aload_n hx hb dX5_copy_8 rfl (lv_at hl 1 rfl) ?_
            refine q_get C h kx7 fl_X5_11 (v := .ref (X 17)) rfl dX5_copy_9 ?_
            refine lv_iload_n hx hb dX5_copy_12 rfl (lv_at hl 0 rfl) ?_
            refine lv_aload_n hx hb dX5_copy_13 rfl (lv_at hl 2 rfl) ?_
            refine q_get C h kx6 fl_X5_11 (v := .ref (X 16)) rfl dX5_copy_14 ?_
            refine lv_iload_n hx hb dX5_copy_17 rfl (lv_at hl 0 rfl) ?_
            refine q_aald C h 4 rfl kx8 (by unfold vp_in; decide) dX5_copy_18 ?_
            refine q_aastN C h 4 rfl kx9 (by unfold vp_in; decide) dX5_copy_19 (fun H locs h => ?_)
            rw [upn0] at h
            rw [hu_id kx9] at h
            refine lv_iinc (v := 5) (lv' := [(2, .int 5), (0, .ref (X 14)), (1, .ref (X 13))]) hx hb dX5_copy_20 hl (k := 0) rfl (by decide) (by decide) rfl (fun ls hl => ?_)
            refine lv_goto (tgt := 2) hx hb dX5_copy_23 (by decide) ?_
            refine lv_iload_n hx hb dX5_copy_2 rfl (lv_at hl 0 rfl) ?_
            refine lv_bipush (v := 8) hx hb dX5_copy_3 (by decide) ?_
            refine lv_icmp_ge (tgt := 26) hx hb dX5_copy_5 (by decide) (fun c_732 => ?_) (fun c_732 => ?_)
            · exact absurd c_732 (by decide)
            · refine lv_aload_n hx hb dX5_copy_8 rfl (lv_at hl 1 rfl) ?_
              refine q_get C h kx7 fl_X5_11 (v := .ref (X 17)) rfl dX5_copy_9 ?_
              refine lv_iload_n hx hb dX5_copy_12 rfl (lv_at hl 0 rfl) ?_
              refine lv_aload_n hx hb dX5_copy_13 rfl (lv_at hl 2 rfl) ?_
              refine q_get C h kx6 fl_X5_11 (v := .ref (X 16)) rfl dX5_copy_14 ?_
              refine lv_iload_n hx hb dX5_copy_17 rfl (lv_at hl 0 rfl) ?_
              refine q_aald C h 4 rfl kx8 (by unfold vp_in; decide) dX5_copy_18 ?_
              refine q_aastN C h 4 rfl kx9 (by unfold vp_in; decide) dX5_copy_19 (fun H locs h => ?_)
              rw [upn0] at h
              rw [hu_id kx9] at h
              refine lv_iinc (v := 6) (lv' := [(2, .int 6), (0, .ref (X 14)), (1, .ref (X 13))]) hx hb dX5_copy_20 hl (k := 0) rfl (by decide) (by decide) rfl (fun ls hl => ?_)
              refine lv_goto (tgt := 2) hx hb dX5_copy_23 (by decide) ?_
              refine lv_iload_n hx hb dX5_copy_2 rfl (lv_at hl 0 rfl) ?_
              refine lv_bipush (v := 8) hx hb dX5_copy_3 (by decide) ?_
              refine lv_icmp_ge (tgt := 26) hx hb dX5_copy_5 (by decide) (fun c_733 => ?_) (fun c_733 => ?_)
              · exact absurd c_733 (by decide)
              · refine lv_aload_n hx hb dX5_copy_8 rfl (lv_at hl 1 rfl) ?_
                refine q_get C h kx7 fl_X5_11 (v := .ref (X 17)) rfl dX5_copy_9 ?_
                refine lv_iload_n hx hb dX5_copy_12 rfl (lv_at hl 0 rfl) ?_
                refine lv_aload_n hx hb dX5_copy_13 rfl (lv_at hl 2 rfl) ?_
                refine q_get C h kx6 fl_X5_11 (v := .ref (X 16)) rfl dX5_copy_14 ?_
                refine lv_iload_n hx hb dX5_copy_17 rfl (lv_at hl 0 rfl) ?_
                refine q_aald C h 4 rfl kx8 (by unfold vp_in; decide) dX5_copy_18 ?_
                refine q_aastN C h 4 rfl kx9 (by unfold vp_in; decide) dX5_copy_19 (fun H locs h => ?_)
                rw [upn0] at h
                rw [hu_id kx9] at h
                refine lv_iinc (v := 7) (lv' := [(2, .int 7), (0, .ref (X 14)), (1, .ref (X 13))]) hx hb dX5_copy_20 hl (k := 0) rfl (by decide) (by decide) rfl (fun ls hl => ?_)
                refine lv_goto (tgt := 2) hx hb dX5_copy_23 (by decide) ?_
                refine lv_iload_n hx hb dX5_copy_2 rfl (lv_at hl 0 rfl) ?_
                refine lv_bipush (v := 8) hx hb dX5_copy_3 (by decide) ?_
                refine lv_icmp_ge (tgt := 26) hx hb dX5_copy_5 (by decide) (fun c_734 => ?_) (fun c_734 => ?_)
                · exact absurd c_734 (by decide)
                · refine lv_aload_n hx hb dX5_copy_8 rfl (lv_at hl 1 rfl) ?_
                  refine q_get C h kx7 fl_X5_11 (v := .ref (X 17)) rfl dX5_copy_9 ?_
                  refine lv_iload_n hx hb dX5_copy_12 rfl (lv_at hl 0 rfl) ?_
                  refine lv_aload_n hx hb dX5_copy_13 rfl (lv_at hl 2 rfl) ?_
                  refine q_get C h kx6 fl_X5_11 (v := .ref (X 16)) rfl dX5_copy_14 ?_
                  refine lv_iload_n hx hb dX5_copy_17 rfl (lv_at hl 0 rfl) ?_
                  refine q_aald C h 4 rfl kx8 (by unfold vp_in; decide) dX5_copy_18 ?_
                  refine q_aastN C h 4 rfl kx9 (by unfold vp_in; decide) dX5_copy_19 (fun H locs h => ?_)
                  rw [upn0] at h
                  rw [hu_id kx9] at h
                  refine lv_iinc (v := 8) (lv' := [(2, .int 8), (0, .ref (X 14)), (1, .ref (X 13))]) hx hb dX5_copy_20 hl (k := 0) rfl (by decide) (by decide) rfl (fun ls hl => ?_)
                  refine lv_goto (tgt := 2) hx hb dX5_copy_23 (by decide) ?_
                  refine lv_iload_n hx hb dX5_copy_2 rfl (lv_at hl 0 rfl) ?_
                  refine lv_bipush (v := 8) hx hb dX5_copy_3 (by decide) ?_
                  refine lv_icmp_ge (tgt := 26) hx hb dX5_copy_5 (by decide) (fun c_735 => ?_) (fun c_735 => ?_)
                  · refine lv_aload_n hx hb dX5_copy_26 rfl (lv_at hl 1 rfl) ?_
                    refine lv_aload_n hx hb dX5_copy_27 rfl (lv_at hl 2 rfl) ?_
                    refine q_get C h kx6 fl_X5_15 (v := .int 0) rfl dX5_copy_28 ?_
                    refine q_put C h kx7 flw_X5_15 (Or.inr ⟨_, _, _, rfl, rfl⟩) (v := .int 0) rfl rfl (Nat.le_of_ble_eq_true rfl) dX5_copy_31 (fun H locs h => ?_)
                    have h : hw D b0 s.heap (hu f (X 14) (.inr (6, [.ref (X 17), .int 0]))) H locs := h
                    rw [hu_id kx7] at h
                    exact q_vret C h hr (rfl) (Nat.le_of_ble_eq_true rfl) (Nat.le_of_ble_eq_true rfl) dX5_copy_34
                  · exact absurd c_735 (by decide)
set_option maxRecDepth 100000 in
set_option maxHeartbeats 4000000 in
theorem c_X0_keep (l : Launch) (D : va_G) (G : Nat → Nat) (b0 : Nat) (f : hM) (X : Nat → Nat) (hX : xw G f X) : mI l yX0_keep cX0_keep 1 (.int) { frames := 1, cells := 0, slots := 0, locals := 22 } D G b0 f [.ref (X 2)] (fun r f1 => (0 : Int32) = r ∧ ∀ q, (∀ i, i ∈ XI → q ≠ X i) → f1 q = f q) := by
  refine met_of (own := RX0) (by decide) rfl (Nat.le_of_ble_eq_true rfl) ?_
  intro p e s m below meth c ls C hr hini hl h
  have hl : lv_has ls 1 [(0, .ref (X 2))] := hl
  obtain ⟨hx, hb, hml, hown, hts, hE0, hlk⟩ := id C
  obtain ⟨kx0, kx1, kx2, kx3, kx4, kx5, kx6, kx7, kx8, kx9⟩ := hX
  refine lv_aload_n hx hb dX0_keep_0 rfl (lv_at hl 0 rfl) ?_
  refine q_get C h kx2 fl_X0_18 (v := .ref (X 14)) rfl dX0_keep_1 ?_
  refine lv_aload_n hx hb dX0_keep_4 rfl (lv_at hl 0 rfl) ?_
  refine q_get C h kx2 fl_X0_12 (v := .ref (X 13)) rfl dX0_keep_5 ?_
  refine k_v (r_V C h hl (As := [.ref (X 13)]) (rest := []) (c_X5_copy l D G b0 f X ⟨kx0, kx1, kx2, kx3, kx4, kx5, kx6, kx7, kx8, kx9⟩) kx7 (Cn := RX5) (T := TX5) (N := 2) rfl rfl mk_X5_copy w_585 w_586 w_587 w_588 ⟨Nat.le_of_ble_eq_true rfl, Nat.le_of_ble_eq_true rfl⟩ rfl (Nat.le_of_ble_eq_true rfl) ⟨Nat.le_of_ble_eq_true rfl, Nat.le_of_ble_eq_true rfl⟩ rfl dX0_keep_8) h (fun f_737 H locs p_738 h => ?_)
  obtain rfl := p_738
  refine lv_aload_n hx hb dX0_keep_11 rfl (lv_at hl 0 rfl) ?_
  refine lv_iconst (v := 1) hx hb dX0_keep_12 (by decide) ?_
  refine q_put C h kx2 flw_X0_60 (Or.inr ⟨_, _, _, rfl, rfl⟩) (v := .int 1) rfl rfl (Nat.le_of_ble_eq_true rfl) dX0_keep_13 (fun H locs h => ?_)
  have h : hw D b0 s.heap (hu f (X 2) (.inr (1, [.int 0, .ref (X 13), .ref (X 14), .ref (X 15), .int 1, .int 0]))) H locs := h
  generalize ef_739 : hu f (X 2) (.inr (1, [.int 0, .ref (X 13), .ref (X 14), .ref (X 15), .int 1, .int 0])) = f_739 at h
  have k_740 : f_739 (X 0) = some (.inr (11, [.ref (X 1), .ref (X 2), .ref (X 3), .ref (X 4), .ref (X 5), .ref (X 6), .ref (X 7), .ref (X 8), .ref (X 9), .ref (X 10)])) := by rw [← ef_739]; exact hu_at kx0 (hne (4, 1) (4, 11) kx2 kx0 rfl rfl (by decide))
  have k_741 : f_739 (X 1) = some (.inr (8, [.int 0, .ref (X 11), .ref (X 12), .int 0, .int 0, .int 0, .int 0])) := by rw [← ef_739]; exact hu_at kx1 (hne (4, 1) (4, 8) kx2 kx1 rfl rfl (by decide))
  have k_742 : f_739 (X 8) = some (.inl (G 1, 4, .inl (fun _ => 0))) := by rw [← ef_739]; exact hu_at kx3 (hne (4, 1) (1, 4) kx2 kx3 rfl rfl (by decide))
  have k_743 : f_739 (X 11) = some (.inl (G 1, 200, .inl (fun _ => 0))) := by rw [← ef_739]; exact hu_at kx4 (hne (4, 1) (1, 200) kx2 kx4 rfl rfl (by decide))
  have k_744 : f_739 (X 12) = some (.inl (G 1, 8, .inl (fun _ => 0))) := by rw [← ef_739]; exact hu_at kx5 (hne (4, 1) (1, 8) kx2 kx5 rfl rfl (by decide))
  have k_745 : f_739 (X 13) = some (.inr (6, [.ref (X 16), .int 0])) := by rw [← ef_739]; exact hu_at kx6 (hne (4, 1) (4, 6) kx2 kx6 rfl rfl (by decide))
  have k_746 : f_739 (X 14) = some (.inr (6, [.ref (X 17), .int 0])) := by rw [← ef_739]; exact hu_at kx7 (hne (4, 1) (4, 6) kx2 kx7 rfl rfl (by decide))
  have k_747 : f_739 (X 16) = some (.inl (G 4, 8, .inr (.inr (.inr (.inr (fun _ => none)))))) := by rw [← ef_739]; exact hu_at kx8 (hne (4, 1) (3, 8) kx2 kx8 rfl rfl (by decide))
  have k_748 : f_739 (X 17) = some (.inl (G 4, 8, .inr (.inr (.inr (.inr (fun _ => none)))))) := by rw [← ef_739]; exact hu_at kx9 (hne (4, 1) (3, 8) kx2 kx9 rfl rfl (by decide))
  have k_749 : f_739 (X 2) = some (.inr (1, [.int 0, .ref (X 13), .ref (X 14), .ref (X 15), .int 1, .int 0])) := by rw [← ef_739]; exact hu_self _ _ _
  refine lv_aload_n hx hb dX0_keep_16 rfl (lv_at hl 0 rfl) ?_
  refine q_get C h k_749 fl_X0_12 (v := .ref (X 13)) rfl dX0_keep_17 ?_
  refine q_get C h k_745 fl_X0_25 (v := .int 0) rfl dX0_keep_20 ?_
  exact q_iret C h hr (⟨rfl, fun q hq => ((congrFun ef_739.symm q).trans (hu_ne (hq 2 (by decide))))⟩) (Nat.le_of_ble_eq_true rfl) (Nat.le_of_ble_eq_true rfl) dX0_keep_23
set_option maxRecDepth 100000 in
set_option maxHeartbeats 4000000 in
theorem c_X10_fault (l : Launch) (D : va_G) (G : Nat → Nat) (b0 : Nat) (f : hM) (X : Nat → Nat) (hX : xw G f X) : mI l yX10_fault cX10_fault 1 (.int) { frames := 2, cells := 0, slots := 0, locals := 45 } D G b0 f [.ref (X 0)] (fun r f1 => (0 : Int32) = r ∧ ∀ q, (∀ i, i ∈ XI → q ≠ X i) → f1 q = f q) := by
  refine met_of (own := RX10) (by decide) rfl (Nat.le_of_ble_eq_true rfl) ?_
  intro p e s m below meth c ls C hr hini hl h
  have hl : lv_has ls 1 [(0, .ref (X 0))] := hl
  obtain ⟨hx, hb, hml, hown, hts, hE0, hlk⟩ := id C
  obtain ⟨kx0, kx1, kx2, kx3, kx4, kx5, kx6, kx7, kx8, kx9⟩ := hX
  refine lv_aload_n hx hb dX10_fault_0 rfl (lv_at hl 0 rfl) ?_
  refine q_get C h kx0 fl_X10_12 (v := .ref (X 1)) rfl dX10_fault_1 ?_
  refine k_i (r_V C h hl (As := []) (rest := []) (c_X7_read l D G b0 f X ⟨kx0, kx1, kx2, kx3, kx4, kx5, kx6, kx7, kx8, kx9⟩ ) kx1 (Cn := RX7) (T := TX7) (N := 7) rfl rfl mk_X7_read w_432 w_433 w_434 w_435 ⟨Nat.le_of_ble_eq_true rfl, Nat.le_of_ble_eq_true rfl⟩ rfl (Nat.le_of_ble_eq_true rfl) ⟨Nat.le_of_ble_eq_true rfl, Nat.le_of_ble_eq_true rfl⟩ rfl dX10_fault_4) h (fun r_750 f_751 H locs p_752 h => ?_)
  obtain ⟨e_, rfl⟩ := p_752
  subst e_
  exact q_iret C h hr (⟨rfl, fun q hq => rfl⟩) (Nat.le_of_ble_eq_true rfl) (Nat.le_of_ble_eq_true rfl) dX10_fault_7
set_option maxRecDepth 100000 in
set_option maxHeartbeats 4000000 in
theorem c_X10_tell (l : Launch) (D : va_G) (G : Nat → Nat) (b0 : Nat) (f : hM) (X : Nat → Nat) (hX : xw G f X) : mI l yX10_tell cX10_tell 1 (.int) { frames := 2, cells := 0, slots := 0, locals := 45 } D G b0 f [.ref (X 0)] (fun r f1 => (-1 : Int32) = r ∧ ∀ q, (∀ i, i ∈ XI → q ≠ X i) → f1 q = f q) := by
  refine met_of (own := RX10) (by decide) rfl (Nat.le_of_ble_eq_true rfl) ?_
  intro p e s m below meth c ls C hr hini hl h
  have hl : lv_has ls 1 [(0, .ref (X 0))] := hl
  obtain ⟨hx, hb, hml, hown, hts, hE0, hlk⟩ := id C
  obtain ⟨kx0, kx1, kx2, kx3, kx4, kx5, kx6, kx7, kx8, kx9⟩ := hX
  refine lv_aload_n hx hb dX10_tell_0 rfl (lv_at hl 0 rfl) ?_
  refine q_get C h kx0 fl_X10_12 (v := .ref (X 1)) rfl dX10_tell_1 ?_
  refine k_i (r_V C h hl (As := []) (rest := []) (c_X7_read l D G b0 f X ⟨kx0, kx1, kx2, kx3, kx4, kx5, kx6, kx7, kx8, kx9⟩ ) kx1 (Cn := RX7) (T := TX7) (N := 7) rfl rfl mk_X7_read w_432 w_433 w_434 w_435 ⟨Nat.le_of_ble_eq_true rfl, Nat.le_of_ble_eq_true rfl⟩ rfl (Nat.le_of_ble_eq_true rfl) ⟨Nat.le_of_ble_eq_true rfl, Nat.le_of_ble_eq_true rfl⟩ rfl dX10_tell_4) h (fun r_753 f_754 H locs p_755 h => ?_)
  obtain ⟨e_, rfl⟩ := p_755
  subst e_
  refine lv_iconst (v := -1) hx hb dX10_tell_7 (by decide) ?_
  refine lv_icmp_eq (tgt := 17) hx hb dX10_tell_8 (by decide) (fun c_756 => ?_) (fun c_756 => ?_)
  · exact absurd c_756 (by decide)
  · refine lv_aload_n hx hb dX10_tell_11 rfl (lv_at hl 0 rfl) ?_
    refine lv_iconst (v := 0) hx hb dX10_tell_12 (by decide) ?_
    refine k_i (r_V C h hl (As := [.int 0]) (rest := []) (c_X10_refuse l D G b0 f X ⟨kx0, kx1, kx2, kx3, kx4, kx5, kx6, kx7, kx8, kx9⟩ ) kx0 (Cn := RX10) (T := TX10) (N := 10) rfl rfl mk_X10_refuse w_519 w_521 w_8 w_522 ⟨Nat.le_of_ble_eq_true rfl, Nat.le_of_ble_eq_true rfl⟩ rfl (Nat.le_of_ble_eq_true rfl) ⟨Nat.le_of_ble_eq_true rfl, Nat.le_of_ble_eq_true rfl⟩ rfl dX10_tell_13) h (fun r_757 f_758 H locs p_759 h => ?_)
    obtain ⟨rfl, p_759⟩ := p_759
    exact q_iret C h hr (⟨rfl, fun q hq => (p_759 q hq)⟩) (Nat.le_of_ble_eq_true rfl) (Nat.le_of_ble_eq_true rfl) dX10_tell_16
set_option maxRecDepth 100000 in
set_option maxHeartbeats 4000000 in
theorem c_X10_undo (l : Launch) (D : va_G) (G : Nat → Nat) (b0 : Nat) (f : hM) (X : Nat → Nat) (hX : xw G f X) : mI l yX10_undo cX10_undo 1 (.int) { frames := 1, cells := 0, slots := 0, locals := 20 } D G b0 f [.ref (X 0)] (fun r f1 => (-1 : Int32) = r ∧ ∀ q, (∀ i, i ∈ XI → q ≠ X i) → f1 q = f q) := by
  refine met_of (own := RX10) (by decide) rfl (Nat.le_of_ble_eq_true rfl) ?_
  intro p e s m below meth c ls C hr hini hl h
  have hl : lv_has ls 1 [(0, .ref (X 0))] := hl
  obtain ⟨hx, hb, hml, hown, hts, hE0, hlk⟩ := id C
  obtain ⟨kx0, kx1, kx2, kx3, kx4, kx5, kx6, kx7, kx8, kx9⟩ := hX
  refine lv_aload_n hx hb dX10_undo_0 rfl (lv_at hl 0 rfl) ?_
  refine q_get C h kx0 fl_X10_19 (v := .ref (X 2)) rfl dX10_undo_1 ?_
  refine k_i (r_V C h hl (As := []) (rest := []) (c_X0_takeBack l D G b0 f X ⟨kx0, kx1, kx2, kx3, kx4, kx5, kx6, kx7, kx8, kx9⟩ ) kx2 (Cn := RX0) (T := TX0) (N := 6) rfl rfl mk_X0_takeBack w_1289 w_1290 w_1291 w_1292 ⟨Nat.le_of_ble_eq_true rfl, Nat.le_of_ble_eq_true rfl⟩ rfl (Nat.le_of_ble_eq_true rfl) ⟨Nat.le_of_ble_eq_true rfl, Nat.le_of_ble_eq_true rfl⟩ rfl dX10_undo_4) h (fun r_760 f_761 H locs p_762 h => ?_)
  obtain ⟨e_, rfl⟩ := p_762
  subst e_
  exact q_iret C h hr (⟨rfl, fun q hq => rfl⟩) (Nat.le_of_ble_eq_true rfl) (Nat.le_of_ble_eq_true rfl) dX10_undo_7
set_option maxRecDepth 100000 in
set_option maxHeartbeats 4000000 in
theorem c_X10_back (l : Launch) (D : va_G) (G : Nat → Nat) (b0 : Nat) (f : hM) (X : Nat → Nat) (hX : xw G f X) : mI l yX10_back cX10_back 1 (.int) { frames := 1, cells := 0, slots := 0, locals := 20 } D G b0 f [.ref (X 0)] (fun r f1 => (-1 : Int32) = r ∧ ∀ q, (∀ i, i ∈ XI → q ≠ X i) → f1 q = f q) := by
  refine met_of (own := RX10) (by decide) rfl (Nat.le_of_ble_eq_true rfl) ?_
  intro p e s m below meth c ls C hr hini hl h
  have hl : lv_has ls 1 [(0, .ref (X 0))] := hl
  obtain ⟨hx, hb, hml, hown, hts, hE0, hlk⟩ := id C
  obtain ⟨kx0, kx1, kx2, kx3, kx4, kx5, kx6, kx7, kx8, kx9⟩ := hX
  refine lv_aload_n hx hb dX10_back_0 rfl (lv_at hl 0 rfl) ?_
  refine q_get C h kx0 fl_X10_19 (v := .ref (X 2)) rfl dX10_back_1 ?_
  refine k_i (r_V C h hl (As := []) (rest := []) (c_X0_restore l D G b0 f X ⟨kx0, kx1, kx2, kx3, kx4, kx5, kx6, kx7, kx8, kx9⟩ ) kx2 (Cn := RX0) (T := TX0) (N := 6) rfl rfl mk_X0_restore w_1305 w_1306 w_1307 w_1308 ⟨Nat.le_of_ble_eq_true rfl, Nat.le_of_ble_eq_true rfl⟩ rfl (Nat.le_of_ble_eq_true rfl) ⟨Nat.le_of_ble_eq_true rfl, Nat.le_of_ble_eq_true rfl⟩ rfl dX10_back_4) h (fun r_763 f_764 H locs p_765 h => ?_)
  obtain ⟨e_, rfl⟩ := p_765
  subst e_
  exact q_iret C h hr (⟨rfl, fun q hq => rfl⟩) (Nat.le_of_ble_eq_true rfl) (Nat.le_of_ble_eq_true rfl) dX10_back_7
set_option maxRecDepth 100000 in
set_option maxHeartbeats 4000000 in
theorem c_X10_image (l : Launch) (D : va_G) (G : Nat → Nat) (b0 : Nat) (f : hM) (X : Nat → Nat) (hX : xw G f X) : mI l yX10_image cX10_image 1 (.int) { frames := 2, cells := 0, slots := 0, locals := 42 } D G b0 f [.ref (X 0)] (fun r f1 => (0 : Int32) = r ∧ ∀ q, (∀ i, i ∈ XI → q ≠ X i) → f1 q = f q) := by
  refine met_of (own := RX10) (by decide) rfl (Nat.le_of_ble_eq_true rfl) ?_
  intro p e s m below meth c ls C hr hini hl h
  have hl : lv_has ls 1 [(0, .ref (X 0))] := hl
  obtain ⟨hx, hb, hml, hown, hts, hE0, hlk⟩ := id C
  obtain ⟨kx0, kx1, kx2, kx3, kx4, kx5, kx6, kx7, kx8, kx9⟩ := hX
  refine lv_aload_n hx hb dX10_image_0 rfl (lv_at hl 0 rfl) ?_
  refine q_get C h kx0 fl_X10_19 (v := .ref (X 2)) rfl dX10_image_1 ?_
  refine k_i (r_V C h hl (As := []) (rest := []) (c_X0_keep l D G b0 f X ⟨kx0, kx1, kx2, kx3, kx4, kx5, kx6, kx7, kx8, kx9⟩ ) kx2 (Cn := RX0) (T := TX0) (N := 6) rfl rfl mk_X0_keep w_1297 w_1298 w_1299 w_1300 ⟨Nat.le_of_ble_eq_true rfl, Nat.le_of_ble_eq_true rfl⟩ rfl (Nat.le_of_ble_eq_true rfl) ⟨Nat.le_of_ble_eq_true rfl, Nat.le_of_ble_eq_true rfl⟩ rfl dX10_image_4) h (fun r_766 f_767 H locs p_768 h => ?_)
  obtain ⟨rfl, p_768⟩ := p_768
  exact q_iret C h hr (⟨rfl, fun q hq => (p_768 q hq)⟩) (Nat.le_of_ble_eq_true rfl) (Nat.le_of_ble_eq_true rfl) dX10_image_7
set_option maxRecDepth 100000 in
set_option maxHeartbeats 4000000 in
theorem c_X10_end (l : Launch) (D : va_G) (G : Nat → Nat) (b0 : Nat) (f : hM) (X : Nat → Nat) (hX : xw G f X) (p0 : Int32) : mI l yX10_end cX10_end 2 (.boolean) { frames := 1, cells := 0, slots := 0, locals := 22 } D G b0 f [.ref (X 0), .int p0] (fun r f1 => (wi p0 0 0 : Int32) = r ∧ ∀ q, (∀ i, i ∈ XI → q ≠ X i) → f1 q = f q) := by
  refine met_of (own := RX10) (by decide) rfl (Nat.le_of_ble_eq_true rfl) ?_
  intro p e s m below meth c ls C hr hini hl h
  have hl : lv_has ls 2 [(0, .ref (X 0)), (1, .int p0)] := hl
  obtain ⟨hx, hb, hml, hown, hts, hE0, hlk⟩ := id C
  obtain ⟨kx0, kx1, kx2, kx3, kx4, kx5, kx6, kx7, kx8, kx9⟩ := hX
  refine lv_iload_n hx hb dX10_end_0 rfl (lv_at hl 1 rfl) ?_
  refine lv_iconst (v := 0) hx hb dX10_end_1 (by decide) ?_
  refine lv_aload_n hx hb dX10_end_2 rfl (lv_at hl 0 rfl) ?_
  refine q_get C h kx0 fl_X10_12 (v := .ref (X 1)) rfl dX10_end_3 ?_
  refine q_get C h kx1 fl_X10_79 (v := .int 0) rfl dX10_end_6 ?_
  refine k_i (r_S C h hl (As := [.int p0, .int 0, .int 0]) (rest := []) (c_X10_within l D G b0 f  p0 0 0) mk_X10_within w_425 w_426 w_427 ⟨Nat.le_of_ble_eq_true rfl, Nat.le_of_ble_eq_true rfl⟩ rfl (Nat.le_of_ble_eq_true rfl) ⟨Nat.le_of_ble_eq_true rfl, Nat.le_of_ble_eq_true rfl⟩ rfl dX10_end_9) h (fun r_769 f_770 H locs p_771 h => ?_)
  obtain ⟨e_, rfl⟩ := p_771
  subst e_
  refine lv_if_ne (tgt := 17) hx hb dX10_end_12 (by decide) (fun c_772 => ?_) (fun c_772 => ?_)
  · refine lv_aload_n hx hb dX10_end_17 rfl (lv_at hl 0 rfl) ?_
    refine q_get C h kx0 fl_X10_12 (v := .ref (X 1)) rfl dX10_end_18 ?_
    refine lv_iload_n hx hb dX10_end_21 rfl (lv_at hl 1 rfl) ?_
    refine q_put C h kx1 flw_X10_79 (Or.inr ⟨_, _, _, rfl, rfl⟩) (v := .int p0) rfl rfl (Nat.le_of_ble_eq_true rfl) dX10_end_22 (fun H locs h => ?_)
    have h : hw D b0 s.heap (hu f (X 1) (.inr (8, [.int p0, .ref (X 11), .ref (X 12), .int 0, .int 0, .int 0, .int 0]))) H locs := h
    generalize ef_773 : hu f (X 1) (.inr (8, [.int p0, .ref (X 11), .ref (X 12), .int 0, .int 0, .int 0, .int 0])) = f_773 at h
    have k_774 : f_773 (X 0) = some (.inr (11, [.ref (X 1), .ref (X 2), .ref (X 3), .ref (X 4), .ref (X 5), .ref (X 6), .ref (X 7), .ref (X 8), .ref (X 9), .ref (X 10)])) := by rw [← ef_773]; exact hu_at kx0 (hne (4, 8) (4, 11) kx1 kx0 rfl rfl (by decide))
    have k_775 : f_773 (X 2) = some (.inr (1, [.int 0, .ref (X 13), .ref (X 14), .ref (X 15), .int 0, .int 0])) := by rw [← ef_773]; exact hu_at kx2 (hne (4, 8) (4, 1) kx1 kx2 rfl rfl (by decide))
    have k_776 : f_773 (X 8) = some (.inl (G 1, 4, .inl (fun _ => 0))) := by rw [← ef_773]; exact hu_at kx3 (hne (4, 8) (1, 4) kx1 kx3 rfl rfl (by decide))
    have k_777 : f_773 (X 11) = some (.inl (G 1, 200, .inl (fun _ => 0))) := by rw [← ef_773]; exact hu_at kx4 (hne (4, 8) (1, 200) kx1 kx4 rfl rfl (by decide))
    have k_778 : f_773 (X 12) = some (.inl (G 1, 8, .inl (fun _ => 0))) := by rw [← ef_773]; exact hu_at kx5 (hne (4, 8) (1, 8) kx1 kx5 rfl rfl (by decide))
    have k_779 : f_773 (X 13) = some (.inr (6, [.ref (X 16), .int 0])) := by rw [← ef_773]; exact hu_at kx6 (hne (4, 8) (4, 6) kx1 kx6 rfl rfl (by decide))
    have k_780 : f_773 (X 14) = some (.inr (6, [.ref (X 17), .int 0])) := by rw [← ef_773]; exact hu_at kx7 (hne (4, 8) (4, 6) kx1 kx7 rfl rfl (by decide))
    have k_781 : f_773 (X 16) = some (.inl (G 4, 8, .inr (.inr (.inr (.inr (fun _ => none)))))) := by rw [← ef_773]; exact hu_at kx8 (hne (4, 8) (3, 8) kx1 kx8 rfl rfl (by decide))
    have k_782 : f_773 (X 17) = some (.inl (G 4, 8, .inr (.inr (.inr (.inr (fun _ => none)))))) := by rw [← ef_773]; exact hu_at kx9 (hne (4, 8) (3, 8) kx1 kx9 rfl rfl (by decide))
    have k_783 : f_773 (X 1) = some (.inr (8, [.int p0, .ref (X 11), .ref (X 12), .int 0, .int 0, .int 0, .int 0])) := by rw [← ef_773]; exact hu_self _ _ _
    refine lv_iconst (v := 1) hx hb dX10_end_25 (by decide) ?_
    exact q_zret C h hr (Or.inr rfl) (⟨(wi_01 p0 0 0).resolve_left c_772, fun q hq => ((congrFun ef_773.symm q).trans (hu_ne (hq 1 (by decide))))⟩) (Nat.le_of_ble_eq_true rfl) (Nat.le_of_ble_eq_true rfl) dX10_end_26
  · refine lv_iconst (v := 0) hx hb dX10_end_15 (by decide) ?_
    exact q_zret C h hr (Or.inl rfl) (⟨c_772, fun q hq => rfl⟩) (Nat.le_of_ble_eq_true rfl) (Nat.le_of_ble_eq_true rfl) dX10_end_16
set_option maxRecDepth 100000 in
set_option maxHeartbeats 4000000 in
theorem c_X10_status (l : Launch) (D : va_G) (G : Nat → Nat) (b0 : Nat) (f : hM) (X : Nat → Nat) (hX : xw G f X) (p0 : Int32) : mI l yX10_status cX10_status 2 (.int) { frames := 1, cells := 0, slots := 0, locals := 22 } D G b0 f [.ref (X 0), .int p0] (fun r f1 => (Vstatus p0 : Int32) = r ∧ ∀ q, (∀ i, i ∈ XI → q ≠ X i) → f1 q = f q) := by
  refine met_of (own := RX10) (by decide) rfl (Nat.le_of_ble_eq_true rfl) ?_
  intro p e s m below meth c ls C hr hini hl h
  have hl : lv_has ls 2 [(0, .ref (X 0)), (1, .int p0)] := hl
  obtain ⟨hx, hb, hml, hown, hts, hE0, hlk⟩ := id C
  obtain ⟨kx0, kx1, kx2, kx3, kx4, kx5, kx6, kx7, kx8, kx9⟩ := hX
  refine lv_iload_n hx hb dX10_status_0 rfl (lv_at hl 1 rfl) ?_
  refine lv_iconst (v := 0) hx hb dX10_status_1 (by decide) ?_
  refine lv_aload_n hx hb dX10_status_2 rfl (lv_at hl 0 rfl) ?_
  refine q_get C h kx0 fl_X10_60 (v := .ref (X 8)) rfl dX10_status_3 ?_
  refine q_alen C h 1 rfl kx3 (v := 4) rfl dX10_status_6 ?_
  refine lv_iconst (v := 1) hx hb dX10_status_7 (by decide) ?_
  refine lv_isub hx hb dX10_status_8 ?_
  refine lv_topi (fun x_ e_ => ?_)
  obtain rfl : 3 = x_ := by rw [e_]; decide
  refine k_i (r_S C h hl (As := [.int p0, .int 0, .int 3]) (rest := []) (c_X10_within l D G b0 f  p0 0 3) mk_X10_within w_425 w_426 w_427 ⟨Nat.le_of_ble_eq_true rfl, Nat.le_of_ble_eq_true rfl⟩ rfl (Nat.le_of_ble_eq_true rfl) ⟨Nat.le_of_ble_eq_true rfl, Nat.le_of_ble_eq_true rfl⟩ rfl dX10_status_9) h (fun r_784 f_785 H locs p_786 h => ?_)
  obtain ⟨e_, rfl⟩ := p_786
  subst e_
  refine lv_if_eq (tgt := 24) hx hb dX10_status_12 (by decide) (fun c_787 => ?_) (fun c_787 => ?_)
  · refine lv_iconst (v := -1) hx hb dX10_status_24 (by decide) ?_
    exact q_iret C h hr (⟨by unfold Vstatus; rw [if_pos c_787], fun q hq => rfl⟩) (Nat.le_of_ble_eq_true rfl) (Nat.le_of_ble_eq_true rfl) dX10_status_25
  · refine lv_aload_n hx hb dX10_status_15 rfl (lv_at hl 0 rfl) ?_
    refine q_get C h kx0 fl_X10_60 (v := .ref (X 8)) rfl dX10_status_16 ?_
    refine lv_iload_n hx hb dX10_status_19 rfl (lv_at hl 1 rfl) ?_
    refine q_iald C h kx3 (vp_wi c_787) dX10_status_20 ?_
    refine lv_topi (fun x_ e_ => ?_)
    obtain rfl : 0 = x_ := e_.symm
    refine lv_goto (tgt := 25) hx hb dX10_status_21 (by decide) ?_
    exact q_iret C h hr (⟨by unfold Vstatus; rw [if_neg c_787], fun q hq => rfl⟩) (Nat.le_of_ble_eq_true rfl) (Nat.le_of_ble_eq_true rfl) dX10_status_25
set_option maxRecDepth 100000 in
set_option maxHeartbeats 4000000 in
theorem c_X10_most (l : Launch) (D : va_G) (G : Nat → Nat) (b0 : Nat) (f : hM) (X : Nat → Nat) (hX : xw G f X) (p0 : Int32) : mI l yX10_most cX10_most 2 (.int) { frames := 2, cells := 0, slots := 0, locals := 42 } D G b0 f [.ref (X 0), .int p0] (fun r f1 => (Vmost p0 : Int32) = r ∧ ∀ q, (∀ i, i ∈ XI → q ≠ X i) → f1 q = f q) := by
  refine met_of (own := RX10) (by decide) rfl (Nat.le_of_ble_eq_true rfl) ?_
  intro p e s m below meth c ls C hr hini hl h
  have hl : lv_has ls 2 [(0, .ref (X 0)), (1, .int p0)] := hl
  obtain ⟨hx, hb, hml, hown, hts, hE0, hlk⟩ := id C
  obtain ⟨kx0, kx1, kx2, kx3, kx4, kx5, kx6, kx7, kx8, kx9⟩ := hX
  refine lv_iload_n hx hb dX10_most_0 rfl (lv_at hl 1 rfl) ?_
  refine lv_iconst (v := 0) hx hb dX10_most_1 (by decide) ?_
  refine lv_iconst (v := 4) hx hb dX10_most_2 (by decide) ?_
  refine k_i (r_S C h hl (As := [.int p0, .int 0, .int 4]) (rest := []) (c_X10_within l D G b0 f  p0 0 4) mk_X10_within w_425 w_426 w_427 ⟨Nat.le_of_ble_eq_true rfl, Nat.le_of_ble_eq_true rfl⟩ rfl (Nat.le_of_ble_eq_true rfl) ⟨Nat.le_of_ble_eq_true rfl, Nat.le_of_ble_eq_true rfl⟩ rfl dX10_most_3) h (fun r_788 f_789 H locs p_790 h => ?_)
  obtain ⟨e_, rfl⟩ := p_790
  subst e_
  refine lv_if_ne (tgt := 11) hx hb dX10_most_6 (by decide) (fun c_791 => ?_) (fun c_791 => ?_)
  · refine lv_iload_n hx hb dX10_most_11 rfl (lv_at hl 1 rfl) ?_
    refine lv_iconst (v := 3) hx hb dX10_most_12 (by decide) ?_
    refine lv_icmp_ne (tgt := 21) hx hb dX10_most_13 (by decide) (fun c_792 => ?_) (fun c_792 => ?_)
    · refine lv_aload_n hx hb dX10_most_21 rfl (lv_at hl 0 rfl) ?_
      refine q_get C h kx0 fl_X10_19 (v := .ref (X 2)) rfl dX10_most_22 ?_
      refine k_i (r_V C h hl (As := []) (rest := []) (c_X0_size l D G b0 f X ⟨kx0, kx1, kx2, kx3, kx4, kx5, kx6, kx7, kx8, kx9⟩ ) kx2 (Cn := RX0) (T := TX0) (N := 6) rfl rfl mk_X0_size w_1321 w_1322 w_1323 w_1324 ⟨Nat.le_of_ble_eq_true rfl, Nat.le_of_ble_eq_true rfl⟩ rfl (Nat.le_of_ble_eq_true rfl) ⟨Nat.le_of_ble_eq_true rfl, Nat.le_of_ble_eq_true rfl⟩ rfl dX10_most_25) h (fun r_793 f_794 H locs p_795 h => ?_)
      obtain ⟨e_, rfl⟩ := p_795
      subst e_
      refine lv_if_ne (tgt := 33) hx hb dX10_most_28 (by decide) (fun c_796 => ?_) (fun c_796 => ?_)
      · exact absurd c_796 (by decide)
      · refine lv_iconst (v := -1) hx hb dX10_most_31 (by decide) ?_
        exact q_iret C h hr (⟨by simp [Vmost, c_792], fun q hq => rfl⟩) (Nat.le_of_ble_eq_true rfl) (Nat.le_of_ble_eq_true rfl) dX10_most_32
    · refine lv_aload_n hx hb dX10_most_16 rfl (lv_at hl 0 rfl) ?_
      refine k_i (r_V C h hl (As := []) (rest := []) (c_X10_unlikeSets l D G b0 f X ⟨kx0, kx1, kx2, kx3, kx4, kx5, kx6, kx7, kx8, kx9⟩ ) kx0 (Cn := RX10) (T := TX10) (N := 10) rfl rfl mk_X10_unlikeSets w_1317 w_1319 w_32 w_1320 ⟨Nat.le_of_ble_eq_true rfl, Nat.le_of_ble_eq_true rfl⟩ rfl (Nat.le_of_ble_eq_true rfl) ⟨Nat.le_of_ble_eq_true rfl, Nat.le_of_ble_eq_true rfl⟩ rfl dX10_most_17) h (fun r_797 f_798 H locs p_799 h => ?_)
      obtain ⟨e_, rfl⟩ := p_799
      subst e_
      exact q_iret C h hr (⟨by simp [Vmost, c_792], fun q hq => rfl⟩) (Nat.le_of_ble_eq_true rfl) (Nat.le_of_ble_eq_true rfl) dX10_most_20
  · refine lv_iconst (v := -1) hx hb dX10_most_9 (by decide) ?_
    exact q_iret C h hr (⟨Vmost_x c_791, fun q hq => rfl⟩) (Nat.le_of_ble_eq_true rfl) (Nat.le_of_ble_eq_true rfl) dX10_most_10
set_option maxRecDepth 100000 in
set_option maxHeartbeats 4000000 in
theorem c_X10_count (l : Launch) (D : va_G) (G : Nat → Nat) (b0 : Nat) (f : hM) (X : Nat → Nat) (hX : xw G f X) (p0 : Int32) : mI l yX10_count cX10_count 2 (.int) { frames := 1, cells := 0, slots := 0, locals := 20 } D G b0 f [.ref (X 0), .int p0] (fun r f1 => (Vcount p0 : Int32) = r ∧ ∀ q, (∀ i, i ∈ XI → q ≠ X i) → f1 q = f q) := by
  refine met_of (own := RX10) (by decide) rfl (Nat.le_of_ble_eq_true rfl) ?_
  intro p e s m below meth c ls C hr hini hl h
  have hl : lv_has ls 2 [(0, .ref (X 0)), (1, .int p0)] := hl
  obtain ⟨hx, hb, hml, hown, hts, hE0, hlk⟩ := id C
  obtain ⟨kx0, kx1, kx2, kx3, kx4, kx5, kx6, kx7, kx8, kx9⟩ := hX
  refine lv_iload_n hx hb dX10_count_0 rfl (lv_at hl 1 rfl) ?_
  rcases sw_0_2 p0 with c_800 | c_800 | c_800 | c_800
  · refine lv_tableIn (tgt := 28) hx hb dX10_count_1 (by rw [c_800]; decide) (by rw [c_800]; decide) (off := 27) (by rw [c_800]; rfl) (by decide) ?_
    refine lv_aload_n hx hb dX10_count_28 rfl (lv_at hl 0 rfl) ?_
    refine q_get C h kx0 fl_X10_12 (v := .ref (X 1)) rfl dX10_count_29 ?_
    refine q_get C h kx1 fl_X10_79 (v := .int 0) rfl dX10_count_32 ?_
    exact q_iret C h hr (⟨by unfold Vcount; rw [c_800]; rfl, fun q hq => rfl⟩) (Nat.le_of_ble_eq_true rfl) (Nat.le_of_ble_eq_true rfl) dX10_count_35
  · refine lv_tableIn (tgt := 36) hx hb dX10_count_1 (by rw [c_800]; decide) (by rw [c_800]; decide) (off := 35) (by rw [c_800]; rfl) (by decide) ?_
    refine lv_aload_n hx hb dX10_count_36 rfl (lv_at hl 0 rfl) ?_
    refine q_get C h kx0 fl_X10_19 (v := .ref (X 2)) rfl dX10_count_37 ?_
    refine q_get C h kx2 fl_X10_379 (v := .int 0) rfl dX10_count_40 ?_
    exact q_iret C h hr (⟨by unfold Vcount; rw [c_800]; rfl, fun q hq => rfl⟩) (Nat.le_of_ble_eq_true rfl) (Nat.le_of_ble_eq_true rfl) dX10_count_43
  · refine lv_tableIn (tgt := 44) hx hb dX10_count_1 (by rw [c_800]; decide) (by rw [c_800]; decide) (off := 43) (by rw [c_800]; rfl) (by decide) ?_
    refine lv_aload_n hx hb dX10_count_44 rfl (lv_at hl 0 rfl) ?_
    refine q_get C h kx0 fl_X10_19 (v := .ref (X 2)) rfl dX10_count_45 ?_
    refine k_i (r_V C h hl (As := []) (rest := []) (c_X0_size l D G b0 f X ⟨kx0, kx1, kx2, kx3, kx4, kx5, kx6, kx7, kx8, kx9⟩ ) kx2 (Cn := RX0) (T := TX0) (N := 6) rfl rfl mk_X0_size w_1321 w_1322 w_1323 w_1324 ⟨Nat.le_of_ble_eq_true rfl, Nat.le_of_ble_eq_true rfl⟩ rfl (Nat.le_of_ble_eq_true rfl) ⟨Nat.le_of_ble_eq_true rfl, Nat.le_of_ble_eq_true rfl⟩ rfl dX10_count_48) h (fun r_801 f_802 H locs p_803 h => ?_)
    obtain ⟨e_, rfl⟩ := p_803
    subst e_
    exact q_iret C h hr (⟨by unfold Vcount; rw [c_800]; rfl, fun q hq => rfl⟩) (Nat.le_of_ble_eq_true rfl) (Nat.le_of_ble_eq_true rfl) dX10_count_51
  · refine lv_tableOut (tgt := 52) hx hb dX10_count_1 c_800 (by decide) ?_
    refine lv_iconst (v := -1) hx hb dX10_count_52 (by decide) ?_
    exact q_iret C h hr (⟨Vcount_x c_800, fun q hq => rfl⟩) (Nat.le_of_ble_eq_true rfl) (Nat.le_of_ble_eq_true rfl) dX10_count_53
