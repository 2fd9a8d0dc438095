theorem dX10_within_0 : decode cX10_within 0 = .ok (.iload_n 0, 1) := by decide +kernel
theorem dX10_within_1 : decode cX10_within 1 = .ok (.iload_n 1, 1) := by decide +kernel
theorem dX10_within_2 : decode cX10_within 2 = .ok (.if_icmp .lt 12, 3) := by decide +kernel
theorem dX10_within_14 : decode cX10_within 14 = .ok (.iconst 0, 1) := by decide +kernel
theorem dX10_within_15 : decode cX10_within 15 = .ok (.ireturn, 1) := by decide +kernel
theorem dX10_within_5 : decode cX10_within 5 = .ok (.iload_n 0, 1) := by decide +kernel
theorem dX10_within_6 : decode cX10_within 6 = .ok (.iload_n 2, 1) := by decide +kernel
theorem dX10_within_7 : decode cX10_within 7 = .ok (.if_icmp .gt 7, 3) := by decide +kernel
theorem dX10_within_10 : decode cX10_within 10 = .ok (.iconst 1, 1) := by decide +kernel
theorem dX10_within_11 : decode cX10_within 11 = .ok (.goto 4, 3) := by decide +kernel
theorem dX11_isIn_0 : decode cX11_isIn 0 = .ok (.lload_n 0, 1) := by decide +kernel
theorem dX11_isIn_1 : decode cX11_isIn 1 = .ok (.lload_n 2, 1) := by decide +kernel
theorem dX11_isIn_2 : decode cX11_isIn 2 = .ok (.lcmp, 1) := by decide +kernel
theorem dX11_isIn_3 : decode cX11_isIn 3 = .ok (.ifCond .lt 14, 3) := by decide +kernel
theorem dX11_isIn_17 : decode cX11_isIn 17 = .ok (.iconst 0, 1) := by decide +kernel
theorem dX11_isIn_18 : decode cX11_isIn 18 = .ok (.ireturn, 1) := by decide +kernel
theorem dX11_isIn_6 : decode cX11_isIn 6 = .ok (.lload_n 0, 1) := by decide +kernel
theorem dX11_isIn_7 : decode cX11_isIn 7 = .ok (.lload 4, 2) := by decide +kernel
theorem dX11_isIn_9 : decode cX11_isIn 9 = .ok (.lcmp, 1) := by decide +kernel
theorem dX11_isIn_10 : decode cX11_isIn 10 = .ok (.ifCond .gt 7, 3) := by decide +kernel
theorem dX11_isIn_13 : decode cX11_isIn 13 = .ok (.iconst 1, 1) := by decide +kernel
theorem dX11_isIn_14 : decode cX11_isIn 14 = .ok (.goto 4, 3) := by decide +kernel
theorem dX0_find_0 : decode cX0_find 0 = .ok (.iload_n 1, 1) := by decide +kernel
theorem dX0_find_1 : decode cX0_find 1 = .ok (.iconst 0, 1) := by decide +kernel
theorem dX0_find_2 : decode cX0_find 2 = .ok (.aload_n 0, 1) := by decide +kernel
theorem dX0_find_3 : decode cX0_find 3 = .ok (.getfield 12, 3) := by decide +kernel
theorem w_193 : Cond.lays "QuarterWalks$Book" "QuarterWalks$Book" "past" "I" ∈ wAll := wIn 193 (by decide +kernel) (by decide +kernel)
theorem w_195 : Cond.laysFinal "QuarterWalks$Book" "QuarterWalks$Book" "now" "LQuarterWalks$Shelf;" ∈ wAll := wIn 195 (by decide +kernel) (by decide +kernel)
theorem w_197 : Cond.laysFinal "QuarterWalks$Book" "QuarterWalks$Book" "kept" "LQuarterWalks$Shelf;" ∈ wAll := wIn 197 (by decide +kernel) (by decide +kernel)
theorem w_199 : Cond.laysFinal "QuarterWalks$Book" "QuarterWalks$Book" "before" "[LQuarterWalks$Shelf;" ∈ wAll := wIn 199 (by decide +kernel) (by decide +kernel)
theorem w_201 : Cond.lays "QuarterWalks$Book" "QuarterWalks$Book" "isKept" "Z" ∈ wAll := wIn 201 (by decide +kernel) (by decide +kernel)
theorem w_203 : Cond.lays "QuarterWalks$Book" "QuarterWalks$Book" "next" "I" ∈ wAll := wIn 203 (by decide +kernel) (by decide +kernel)
theorem inA_X0 : ∀ w ∈ u_ws RX0 TX0 6, w ∈ wAll := List.forall_mem_cons.mpr ⟨w_193, List.forall_mem_cons.mpr ⟨w_195, List.forall_mem_cons.mpr ⟨w_197, List.forall_mem_cons.mpr ⟨w_199, List.forall_mem_cons.mpr ⟨w_201, List.forall_mem_cons.mpr ⟨w_203, fun _ h => absurd h List.not_mem_nil⟩⟩⟩⟩⟩⟩
theorem w_188 : Cond.fieldLink "QuarterWalks$Book" 12 "QuarterWalks$Book" "now" "LQuarterWalks$Shelf;" ∈ wAll := wIn 188 (by decide +kernel) (by decide +kernel)
theorem fl_X0_12 : fl RX0 12 1 1 := ⟨RX0, TX0, 6, rfl, inA_X0, by decide, w_188⟩
theorem dX0_find_6 : decode cX0_find 6 = .ok (.getfield 25, 3) := by decide +kernel
theorem w_180 : Cond.laysFinal "QuarterWalks$Shelf" "QuarterWalks$Shelf" "sets" "[LQuarterWalks$StepSet;" ∈ wAll := wIn 180 (by decide +kernel) (by decide +kernel)
theorem w_182 : Cond.lays "QuarterWalks$Shelf" "QuarterWalks$Shelf" "size" "I" ∈ wAll := wIn 182 (by decide +kernel) (by decide +kernel)
theorem inA_X5 : ∀ w ∈ u_ws RX5 TX5 2, w ∈ wAll := List.forall_mem_cons.mpr ⟨w_180, List.forall_mem_cons.mpr ⟨w_182, fun _ h => absurd h List.not_mem_nil⟩⟩
theorem w_178 : Cond.fieldLink "QuarterWalks$Book" 25 "QuarterWalks$Shelf" "size" "I" ∈ wAll := wIn 178 (by decide +kernel) (by decide +kernel)
theorem fl_X0_25 : fl RX0 25 6 1 := ⟨RX5, TX5, 2, rfl, inA_X5, by decide, w_178⟩
theorem dX0_find_9 : decode cX0_find 9 = .ok (.iconst 1, 1) := by decide +kernel
theorem dX0_find_10 : decode cX0_find 10 = .ok (.isub, 1) := by decide +kernel
theorem dX0_find_11 : decode cX0_find 11 = .ok (.invokestatic 29, 3) := by decide +kernel
theorem w_96 : Cond.initialized "QuarterWalks" ∈ wAll := wIn 96 (by decide +kernel) (by decide +kernel)
theorem mk_X10_within : mk yX10_within 3 := ⟨by decide +kernel, w_96⟩
theorem w_426 : Cond.static yX10_within ∈ wAll := wIn 426 (by decide +kernel) (by decide +kernel)
theorem w_427 : Cond.code yX10_within cX10_within 3 (some .boolean) ∈ wAll := wIn 427 (by decide +kernel) (by decide +kernel)
theorem dX0_find_14 : decode cX0_find 14 = .ok (.ifCond .eq 15, 3) := by decide +kernel
theorem dX0_find_29 : decode cX0_find 29 = .ok (.aconst_null, 1) := by decide +kernel
theorem dX0_find_30 : decode cX0_find 30 = .ok (.areturn, 1) := by decide +kernel
theorem dX11_isSet_0 : decode cX11_isSet 0 = .ok (.iload_n 1, 1) := by decide +kernel
theorem dX11_isSet_1 : decode cX11_isSet 1 = .ok (.i2l, 1) := by decide +kernel
theorem dX11_isSet_2 : decode cX11_isSet 2 = .ok (.lconst 0, 1) := by decide +kernel
theorem dX11_isSet_3 : decode cX11_isSet 3 = .ok (.aload_n 0, 1) := by decide +kernel
theorem dX11_isSet_4 : decode cX11_isSet 4 = .ok (.getfield 17, 3) := by decide +kernel
theorem w_1465 : Cond.lays "QuarterWalksModel" "QuarterWalksModel" "thrown" "I" ∈ wAll := wIn 1465 (by decide +kernel) (by decide +kernel)
theorem w_1467 : Cond.laysFinal "QuarterWalksModel" "QuarterWalksModel" "tape" "[B" ∈ wAll := wIn 1467 (by decide +kernel) (by decide +kernel)
theorem w_1469 : Cond.lays "QuarterWalksModel" "QuarterWalksModel" "length" "I" ∈ wAll := wIn 1469 (by decide +kernel) (by decide +kernel)
theorem w_1471 : Cond.lays "QuarterWalksModel" "QuarterWalksModel" "at" "I" ∈ wAll := wIn 1471 (by decide +kernel) (by decide +kernel)
theorem w_1473 : Cond.lays "QuarterWalksModel" "QuarterWalksModel" "fault" "I" ∈ wAll := wIn 1473 (by decide +kernel) (by decide +kernel)
theorem w_1475 : Cond.laysFinal "QuarterWalksModel" "QuarterWalksModel" "read" "[I" ∈ wAll := wIn 1475 (by decide +kernel) (by decide +kernel)
theorem w_1477 : Cond.laysFinal "QuarterWalksModel" "QuarterWalksModel" "book" "[I" ∈ wAll := wIn 1477 (by decide +kernel) (by decide +kernel)
theorem w_1479 : Cond.laysFinal "QuarterWalksModel" "QuarterWalksModel" "image" "[I" ∈ wAll := wIn 1479 (by decide +kernel) (by decide +kernel)
theorem w_1481 : Cond.laysFinal "QuarterWalksModel" "QuarterWalksModel" "kept" "[I" ∈ wAll := wIn 1481 (by decide +kernel) (by decide +kernel)
theorem w_1483 : Cond.laysFinal "QuarterWalksModel" "QuarterWalksModel" "refused" "[I" ∈ wAll := wIn 1483 (by decide +kernel) (by decide +kernel)
theorem w_1485 : Cond.lays "QuarterWalksModel" "QuarterWalksModel" "acts" "I" ∈ wAll := wIn 1485 (by decide +kernel) (by decide +kernel)
theorem w_1487 : Cond.lays "QuarterWalksModel" "QuarterWalksModel" "hasImage" "Z" ∈ wAll := wIn 1487 (by decide +kernel) (by decide +kernel)
theorem w_1489 : Cond.lays "QuarterWalksModel" "QuarterWalksModel" "grid" "[J" ∈ wAll := wIn 1489 (by decide +kernel) (by decide +kernel)
theorem w_1491 : Cond.lays "QuarterWalksModel" "QuarterWalksModel" "next" "[J" ∈ wAll := wIn 1491 (by decide +kernel) (by decide +kernel)
theorem w_1493 : Cond.lays "QuarterWalksModel" "QuarterWalksModel" "gone" "I" ∈ wAll := wIn 1493 (by decide +kernel) (by decide +kernel)
theorem w_1495 : Cond.laysFinal "QuarterWalksModel" "QuarterWalksModel" "term" "[I" ∈ wAll := wIn 1495 (by decide +kernel) (by decide +kernel)
theorem w_1497 : Cond.laysFinal "QuarterWalksModel" "QuarterWalksModel" "other" "[I" ∈ wAll := wIn 1497 (by decide +kernel) (by decide +kernel)
theorem w_1499 : Cond.laysFinal "QuarterWalksModel" "QuarterWalksModel" "table" "[J" ∈ wAll := wIn 1499 (by decide +kernel) (by decide +kernel)
theorem w_1501 : Cond.lays "QuarterWalksModel" "QuarterWalksModel" "determinant" "J" ∈ wAll := wIn 1501 (by decide +kernel) (by decide +kernel)
theorem w_1503 : Cond.laysFinal "QuarterWalksModel" "QuarterWalksModel" "held" "[J" ∈ wAll := wIn 1503 (by decide +kernel) (by decide +kernel)
theorem w_1505 : Cond.laysFinal "QuarterWalksModel" "QuarterWalksModel" "orbitX" "[I" ∈ wAll := wIn 1505 (by decide +kernel) (by decide +kernel)
theorem w_1507 : Cond.laysFinal "QuarterWalksModel" "QuarterWalksModel" "orbitY" "[I" ∈ wAll := wIn 1507 (by decide +kernel) (by decide +kernel)
theorem w_1509 : Cond.laysFinal "QuarterWalksModel" "QuarterWalksModel" "column" "[J" ∈ wAll := wIn 1509 (by decide +kernel) (by decide +kernel)
theorem w_1511 : Cond.laysFinal "QuarterWalksModel" "QuarterWalksModel" "reduced" "[J" ∈ wAll := wIn 1511 (by decide +kernel) (by decide +kernel)
theorem w_1513 : Cond.laysFinal "QuarterWalksModel" "QuarterWalksModel" "made" "[J" ∈ wAll := wIn 1513 (by decide +kernel) (by decide +kernel)
theorem w_1515 : Cond.laysFinal "QuarterWalksModel" "QuarterWalksModel" "told" "[J" ∈ wAll := wIn 1515 (by decide +kernel) (by decide +kernel)
theorem w_1517 : Cond.laysFinal "QuarterWalksModel" "QuarterWalksModel" "leads" "[I" ∈ wAll := wIn 1517 (by decide +kernel) (by decide +kernel)
theorem w_1519 : Cond.lays "QuarterWalksModel" "QuarterWalksModel" "columns" "I" ∈ wAll := wIn 1519 (by decide +kernel) (by decide +kernel)
theorem w_1521 : Cond.lays "QuarterWalksModel" "QuarterWalksModel" "rows" "I" ∈ wAll := wIn 1521 (by decide +kernel) (by decide +kernel)
theorem w_1523 : Cond.laysFinal "QuarterWalksModel" "QuarterWalksModel" "powers" "[J" ∈ wAll := wIn 1523 (by decide +kernel) (by decide +kernel)
theorem w_1525 : Cond.laysFinal "QuarterWalksModel" "QuarterWalksModel" "said" "[I" ∈ wAll := wIn 1525 (by decide +kernel) (by decide +kernel)
theorem w_1527 : Cond.lays "QuarterWalksModel" "QuarterWalksModel" "says" "I" ∈ wAll := wIn 1527 (by decide +kernel) (by decide +kernel)
theorem inA_X11 : ∀ w ∈ u_ws RX11 TX11 32, w ∈ wAll := List.forall_mem_cons.mpr ⟨w_1465, List.forall_mem_cons.mpr ⟨w_1467, List.forall_mem_cons.mpr ⟨w_1469, List.forall_mem_cons.mpr ⟨w_1471, List.forall_mem_cons.mpr ⟨w_1473, List.forall_mem_cons.mpr ⟨w_1475, List.forall_mem_cons.mpr ⟨w_1477, List.forall_mem_cons.mpr ⟨w_1479, List.forall_mem_cons.mpr ⟨w_1481, List.forall_mem_cons.mpr ⟨w_1483, List.forall_mem_cons.mpr ⟨w_1485, List.forall_mem_cons.mpr ⟨w_1487, List.forall_mem_cons.mpr ⟨w_1489, List.forall_mem_cons.mpr ⟨w_1491, List.forall_mem_cons.mpr ⟨w_1493, List.forall_mem_cons.mpr ⟨w_1495, List.forall_mem_cons.mpr ⟨w_1497, List.forall_mem_cons.mpr ⟨w_1499, List.forall_mem_cons.mpr ⟨w_1501, List.forall_mem_cons.mpr ⟨w_1503, List.forall_mem_cons.mpr ⟨w_1505, List.forall_mem_cons.mpr ⟨w_1507, List.forall_mem_cons.mpr ⟨w_1509, List.forall_mem_cons.mpr ⟨w_1511, List.forall_mem_cons.mpr ⟨w_1513, List.forall_mem_cons.mpr ⟨w_1515, List.forall_mem_cons.mpr ⟨w_1517, List.forall_mem_cons.mpr ⟨w_1519, List.forall_mem_cons.mpr ⟨w_1521, List.forall_mem_cons.mpr ⟨w_1523, List.forall_mem_cons.mpr ⟨w_1525, List.forall_mem_cons.mpr ⟨w_1527, fun _ h => absurd h List.not_mem_nil⟩⟩⟩⟩⟩⟩⟩⟩⟩⟩⟩⟩⟩⟩⟩⟩⟩⟩⟩⟩⟩⟩⟩⟩⟩⟩⟩⟩⟩⟩⟩⟩
theorem w_1439 : Cond.fieldLink "QuarterWalksModel" 17 "QuarterWalksModel" "book" "[I" ∈ wAll := wIn 1439 (by decide +kernel) (by decide +kernel)
theorem fl_X11_17 : fl RX11 17 12 6 := ⟨RX11, TX11, 32, rfl, inA_X11, by decide, w_1439⟩
theorem dX11_isSet_7 : decode cX11_isSet 7 = .ok (.bipush 80, 2) := by decide +kernel
theorem dX11_isSet_9 : decode cX11_isSet 9 = .ok (.iaload, 1) := by decide +kernel
theorem dX11_isSet_10 : decode cX11_isSet 10 = .ok (.iconst 1, 1) := by decide +kernel
theorem dX11_isSet_11 : decode cX11_isSet 11 = .ok (.isub, 1) := by decide +kernel
theorem dX11_isSet_12 : decode cX11_isSet 12 = .ok (.i2l, 1) := by decide +kernel
theorem dX11_isSet_13 : decode cX11_isSet 13 = .ok (.invokestatic 158, 3) := by decide +kernel
theorem w_1628 : Cond.methodLink "QuarterWalksModel" 158 yX11_isIn ∈ wAll := wIn 1628 (by decide +kernel) (by decide +kernel)
theorem w_110 : Cond.initialized "QuarterWalksModel" ∈ wAll := wIn 110 (by decide +kernel) (by decide +kernel)
theorem mk_X11_isIn : mk yX11_isIn 3 := ⟨by decide +kernel, w_110⟩
theorem w_1629 : Cond.static yX11_isIn ∈ wAll := wIn 1629 (by decide +kernel) (by decide +kernel)
theorem w_1630 : Cond.code yX11_isIn cX11_isIn 6 (some .boolean) ∈ wAll := wIn 1630 (by decide +kernel) (by decide +kernel)
theorem dX11_isSet_16 : decode cX11_isSet 16 = .ok (.ireturn, 1) := by decide +kernel
theorem dX10_refuse_0 : decode cX10_refuse 0 = .ok (.aload_n 0, 1) := by decide +kernel
theorem dX10_refuse_1 : decode cX10_refuse 1 = .ok (.getfield 60, 3) := by decide +kernel
theorem w_389 : Cond.laysFinal "QuarterWalks" "QuarterWalks" "tape" "LQuarterWalks$Tape;" ∈ wAll := wIn 389 (by decide +kernel) (by decide +kernel)
theorem w_391 : Cond.laysFinal "QuarterWalks" "QuarterWalks" "book" "LQuarterWalks$Book;" ∈ wAll := wIn 391 (by decide +kernel) (by decide +kernel)
theorem w_393 : Cond.laysFinal "QuarterWalks" "QuarterWalks" "grid" "LQuarterWalks$Grid;" ∈ wAll := wIn 393 (by decide +kernel) (by decide +kernel)
theorem w_395 : Cond.laysFinal "QuarterWalks" "QuarterWalks" "ways" "LQuarterWalks$Ways;" ∈ wAll := wIn 395 (by decide +kernel) (by decide +kernel)
theorem w_397 : Cond.laysFinal "QuarterWalks" "QuarterWalks" "turns" "LQuarterWalks$Turns;" ∈ wAll := wIn 397 (by decide +kernel) (by decide +kernel)
theorem w_399 : Cond.laysFinal "QuarterWalks" "QuarterWalks" "matrix" "LQuarterWalks$Matrix;" ∈ wAll := wIn 399 (by decide +kernel) (by decide +kernel)
theorem w_401 : Cond.laysFinal "QuarterWalks" "QuarterWalks" "guess" "LQuarterWalks$Guess;" ∈ wAll := wIn 401 (by decide +kernel) (by decide +kernel)
theorem w_403 : Cond.laysFinal "QuarterWalks" "QuarterWalks" "refused" "[I" ∈ wAll := wIn 403 (by decide +kernel) (by decide +kernel)
theorem w_405 : Cond.laysFinal "QuarterWalks" "QuarterWalks" "scratch" "[J" ∈ wAll := wIn 405 (by decide +kernel) (by decide +kernel)
theorem w_407 : Cond.laysFinal "QuarterWalks" "QuarterWalks" "script" "Ljava/lang/StringBuilder;" ∈ wAll := wIn 407 (by decide +kernel) (by decide +kernel)
theorem inA_X10 : ∀ w ∈ u_ws RX10 TX10 10, w ∈ wAll := List.forall_mem_cons.mpr ⟨w_389, List.forall_mem_cons.mpr ⟨w_391, List.forall_mem_cons.mpr ⟨w_393, List.forall_mem_cons.mpr ⟨w_395, List.forall_mem_cons.mpr ⟨w_397, List.forall_mem_cons.mpr ⟨w_399, List.forall_mem_cons.mpr ⟨w_401, List.forall_mem_cons.mpr ⟨w_403, List.forall_mem_cons.mpr ⟨w_405, List.forall_mem_cons.mpr ⟨w_407, fun _ h => absurd h List.not_mem_nil⟩⟩⟩⟩⟩⟩⟩⟩⟩⟩
theorem w_386 : Cond.fieldLink "QuarterWalks" 60 "QuarterWalks" "refused" "[I" ∈ wAll := wIn 386 (by decide +kernel) (by decide +kernel)
theorem fl_X10_60 : fl RX10 60 11 7 := ⟨RX10, TX10, 10, rfl, inA_X10, by decide, w_386⟩
theorem dX10_refuse_4 : decode cX10_refuse 4 = .ok (.iload_n 1, 1) := by decide +kernel
theorem dX10_refuse_5 : decode cX10_refuse 5 = .ok (.dup2, 1) := by decide +kernel
theorem dX10_refuse_6 : decode cX10_refuse 6 = .ok (.iaload, 1) := by decide +kernel
theorem dX10_refuse_7 : decode cX10_refuse 7 = .ok (.iconst 1, 1) := by decide +kernel
theorem dX10_refuse_8 : decode cX10_refuse 8 = .ok (.iadd, 1) := by decide +kernel
theorem dX10_refuse_9 : decode cX10_refuse 9 = .ok (.iastore, 1) := by decide +kernel
theorem dX10_refuse_10 : decode cX10_refuse 10 = .ok (.iconst (-1), 1) := by decide +kernel
theorem dX10_refuse_11 : decode cX10_refuse 11 = .ok (.ireturn, 1) := by decide +kernel
theorem dX11_refuse_0 : decode cX11_refuse 0 = .ok (.aload_n 0, 1) := by decide +kernel
theorem dX11_refuse_1 : decode cX11_refuse 1 = .ok (.getfield 26, 3) := by decide +kernel
theorem w_1442 : Cond.fieldLink "QuarterWalksModel" 26 "QuarterWalksModel" "refused" "[I" ∈ wAll := wIn 1442 (by decide +kernel) (by decide +kernel)
theorem fl_X11_26 : fl RX11 26 12 9 := ⟨RX11, TX11, 32, rfl, inA_X11, by decide, w_1442⟩
theorem dX11_refuse_4 : decode cX11_refuse 4 = .ok (.iload_n 1, 1) := by decide +kernel
theorem dX11_refuse_5 : decode cX11_refuse 5 = .ok (.dup2, 1) := by decide +kernel
theorem dX11_refuse_6 : decode cX11_refuse 6 = .ok (.iaload, 1) := by decide +kernel
theorem dX11_refuse_7 : decode cX11_refuse 7 = .ok (.iconst 1, 1) := by decide +kernel
theorem dX11_refuse_8 : decode cX11_refuse 8 = .ok (.iadd, 1) := by decide +kernel
theorem dX11_refuse_9 : decode cX11_refuse 9 = .ok (.iastore, 1) := by decide +kernel
theorem dX11_refuse_10 : decode cX11_refuse 10 = .ok (.iconst (-1), 1) := by decide +kernel
theorem dX11_refuse_11 : decode cX11_refuse 11 = .ok (.ireturn, 1) := by decide +kernel
theorem dX10_readies_0 : decode cX10_readies 0 = .ok (.aload_n 0, 1) := by decide +kernel
theorem dX10_readies_1 : decode cX10_readies 1 = .ok (.getfield 19, 3) := by decide +kernel
theorem w_380 : Cond.fieldLink "QuarterWalks" 19 "QuarterWalks" "book" "LQuarterWalks$Book;" ∈ wAll := wIn 380 (by decide +kernel) (by decide +kernel)
theorem fl_X10_19 : fl RX10 19 11 1 := ⟨RX10, TX10, 10, rfl, inA_X10, by decide, w_380⟩
theorem dX10_readies_4 : decode cX10_readies 4 = .ok (.iload_n 1, 1) := by decide +kernel
theorem dX10_readies_5 : decode cX10_readies 5 = .ok (.invokevirtual 110, 3) := by decide +kernel
theorem w_594 : Cond.methodLink "QuarterWalks" 110 yX0_find ∈ wAll := wIn 594 (by decide +kernel) (by decide +kernel)
theorem w_596 : Cond.selects yX0_find.cls yX0_find yX0_find ∈ wAll := wIn 596 (by decide +kernel) (by decide +kernel)
theorem w_98 : Cond.initialized "QuarterWalks$Book" ∈ wAll := wIn 98 (by decide +kernel) (by decide +kernel)
theorem mk_X0_find : mk yX0_find 1 := ⟨by decide +kernel, w_98⟩
theorem w_595 : Cond.instanceMethod yX0_find ∈ wAll := wIn 595 (by decide +kernel) (by decide +kernel)
theorem w_597 : Cond.code yX0_find cX0_find 2 (some (.object "QuarterWalks$StepSet")) ∈ wAll := wIn 597 (by decide +kernel) (by decide +kernel)
theorem dX10_readies_8 : decode cX10_readies 8 = .ok (.astore 6, 2) := by decide +kernel
theorem dX10_readies_10 : decode cX10_readies 10 = .ok (.aload 6, 2) := by decide +kernel
theorem dX10_readies_12 : decode cX10_readies 12 = .ok (.ifnull 21, 3) := by decide +kernel
theorem dX10_readies_33 : decode cX10_readies 33 = .ok (.iconst 0, 1) := by decide +kernel
theorem dX10_readies_34 : decode cX10_readies 34 = .ok (.ireturn, 1) := by decide +kernel
theorem dX10_drop_0 : decode cX10_drop 0 = .ok (.aload_n 0, 1) := by decide +kernel
theorem dX10_drop_1 : decode cX10_drop 1 = .ok (.getfield 19, 3) := by decide +kernel
theorem dX10_drop_4 : decode cX10_drop 4 = .ok (.iload_n 1, 1) := by decide +kernel
theorem dX10_drop_5 : decode cX10_drop 5 = .ok (.invokevirtual 110, 3) := by decide +kernel
theorem dX10_drop_8 : decode cX10_drop 8 = .ok (.ifnonnull 9, 3) := by decide +kernel
theorem dX10_drop_11 : decode cX10_drop 11 = .ok (.aload_n 0, 1) := by decide +kernel
theorem dX10_drop_12 : decode cX10_drop 12 = .ok (.iconst 0, 1) := by decide +kernel
theorem dX10_drop_13 : decode cX10_drop 13 = .ok (.invokevirtual 95, 3) := by decide +kernel
theorem w_519 : Cond.methodLink "QuarterWalks" 95 yX10_refuse ∈ wAll := wIn 519 (by decide +kernel) (by decide +kernel)
theorem w_8 : Cond.selects yX10_refuse.cls yX10_refuse yX10_refuse ∈ wAll := wIn 8 (by decide +kernel) (by decide +kernel)
theorem mk_X10_refuse : mk yX10_refuse 1 := ⟨by decide +kernel, w_96⟩
theorem w_521 : Cond.instanceMethod yX10_refuse ∈ wAll := wIn 521 (by decide +kernel) (by decide +kernel)
theorem w_522 : Cond.code yX10_refuse cX10_refuse 2 (some .int) ∈ wAll := wIn 522 (by decide +kernel) (by decide +kernel)
theorem dX10_drop_16 : decode cX10_drop 16 = .ok (.ireturn, 1) := by decide +kernel
theorem dX10_mirror_0 : decode cX10_mirror 0 = .ok (.aload_n 0, 1) := by decide +kernel
theorem dX10_mirror_1 : decode cX10_mirror 1 = .ok (.getfield 19, 3) := by decide +kernel
theorem dX10_mirror_4 : decode cX10_mirror 4 = .ok (.iload_n 1, 1) := by decide +kernel
theorem dX10_mirror_5 : decode cX10_mirror 5 = .ok (.invokevirtual 110, 3) := by decide +kernel
theorem dX10_mirror_8 : decode cX10_mirror 8 = .ok (.astore_n 2, 1) := by decide +kernel
theorem dX10_mirror_9 : decode cX10_mirror 9 = .ok (.aload_n 2, 1) := by decide +kernel
theorem dX10_mirror_10 : decode cX10_mirror 10 = .ok (.ifnonnull 11, 3) := by decide +kernel
theorem dX10_mirror_13 : decode cX10_mirror 13 = .ok (.aload_n 0, 1) := by decide +kernel
theorem dX10_mirror_14 : decode cX10_mirror 14 = .ok (.iconst 0, 1) := by decide +kernel
theorem dX10_mirror_15 : decode cX10_mirror 15 = .ok (.invokevirtual 95, 3) := by decide +kernel
theorem dX10_mirror_18 : decode cX10_mirror 18 = .ok (.goto 19, 3) := by decide +kernel
theorem dX10_mirror_37 : decode cX10_mirror 37 = .ok (.ireturn, 1) := by decide +kernel
theorem dX10_turn_0 : decode cX10_turn 0 = .ok (.aload_n 0, 1) := by decide +kernel
theorem dX10_turn_1 : decode cX10_turn 1 = .ok (.getfield 19, 3) := by decide +kernel
theorem dX10_turn_4 : decode cX10_turn 4 = .ok (.iload_n 1, 1) := by decide +kernel
theorem dX10_turn_5 : decode cX10_turn 5 = .ok (.invokevirtual 110, 3) := by decide +kernel
theorem dX10_turn_8 : decode cX10_turn 8 = .ok (.astore_n 2, 1) := by decide +kernel
theorem dX10_turn_9 : decode cX10_turn 9 = .ok (.aload_n 2, 1) := by decide +kernel
theorem dX10_turn_10 : decode cX10_turn 10 = .ok (.ifnonnull 11, 3) := by decide +kernel
theorem dX10_turn_13 : decode cX10_turn 13 = .ok (.aload_n 0, 1) := by decide +kernel
theorem dX10_turn_14 : decode cX10_turn 14 = .ok (.iconst 0, 1) := by decide +kernel
theorem dX10_turn_15 : decode cX10_turn 15 = .ok (.invokevirtual 95, 3) := by decide +kernel
theorem dX10_turn_18 : decode cX10_turn 18 = .ok (.goto 19, 3) := by decide +kernel
theorem dX10_turn_37 : decode cX10_turn 37 = .ok (.ireturn, 1) := by decide +kernel
theorem dX10_join_0 : decode cX10_join 0 = .ok (.aload_n 0, 1) := by decide +kernel
theorem dX10_join_1 : decode cX10_join 1 = .ok (.getfield 19, 3) := by decide +kernel
theorem dX10_join_4 : decode cX10_join 4 = .ok (.iload_n 1, 1) := by decide +kernel
theorem dX10_join_5 : decode cX10_join 5 = .ok (.invokevirtual 110, 3) := by decide +kernel
theorem dX10_join_8 : decode cX10_join 8 = .ok (.astore_n 3, 1) := by decide +kernel
theorem dX10_join_9 : decode cX10_join 9 = .ok (.aload_n 0, 1) := by decide +kernel
theorem dX10_join_10 : decode cX10_join 10 = .ok (.getfield 19, 3) := by decide +kernel
theorem dX10_join_13 : decode cX10_join 13 = .ok (.iload_n 2, 1) := by decide +kernel
theorem dX10_join_14 : decode cX10_join 14 = .ok (.invokevirtual 110, 3) := by decide +kernel
theorem dX10_join_17 : decode cX10_join 17 = .ok (.astore 4, 2) := by decide +kernel
theorem dX10_join_19 : decode cX10_join 19 = .ok (.aload_n 3, 1) := by decide +kernel
theorem dX10_join_20 : decode cX10_join 20 = .ok (.ifnull 8, 3) := by decide +kernel
theorem dX10_join_28 : decode cX10_join 28 = .ok (.aload_n 0, 1) := by decide +kernel
theorem dX10_join_29 : decode cX10_join 29 = .ok (.iconst 0, 1) := by decide +kernel
theorem dX10_join_30 : decode cX10_join 30 = .ok (.invokevirtual 95, 3) := by decide +kernel
theorem dX10_join_33 : decode cX10_join 33 = .ok (.ireturn, 1) := by decide +kernel
theorem dX10_scale_0 : decode cX10_scale 0 = .ok (.aload_n 0, 1) := by decide +kernel
theorem dX10_scale_1 : decode cX10_scale 1 = .ok (.getfield 19, 3) := by decide +kernel
theorem dX10_scale_4 : decode cX10_scale 4 = .ok (.iload_n 1, 1) := by decide +kernel
theorem dX10_scale_5 : decode cX10_scale 5 = .ok (.invokevirtual 110, 3) := by decide +kernel
theorem dX10_scale_8 : decode cX10_scale 8 = .ok (.astore_n 3, 1) := by decide +kernel
theorem dX10_scale_9 : decode cX10_scale 9 = .ok (.aload_n 3, 1) := by decide +kernel
theorem dX10_scale_10 : decode cX10_scale 10 = .ok (.ifnonnull 9, 3) := by decide +kernel
theorem dX10_scale_13 : decode cX10_scale 13 = .ok (.aload_n 0, 1) := by decide +kernel
theorem dX10_scale_14 : decode cX10_scale 14 = .ok (.iconst 0, 1) := by decide +kernel
theorem dX10_scale_15 : decode cX10_scale 15 = .ok (.invokevirtual 95, 3) := by decide +kernel
theorem dX10_scale_18 : decode cX10_scale 18 = .ok (.ireturn, 1) := by decide +kernel
theorem dX10_weigh_0 : decode cX10_weigh 0 = .ok (.aload_n 0, 1) := by decide +kernel
theorem dX10_weigh_1 : decode cX10_weigh 1 = .ok (.getfield 19, 3) := by decide +kernel
theorem dX10_weigh_4 : decode cX10_weigh 4 = .ok (.iload_n 1, 1) := by decide +kernel
theorem dX10_weigh_5 : decode cX10_weigh 5 = .ok (.invokevirtual 110, 3) := by decide +kernel
theorem dX10_weigh_8 : decode cX10_weigh 8 = .ok (.astore 4, 2) := by decide +kernel
theorem dX10_weigh_10 : decode cX10_weigh 10 = .ok (.aload 4, 2) := by decide +kernel
theorem dX10_weigh_12 : decode cX10_weigh 12 = .ok (.ifnonnull 9, 3) := by decide +kernel
theorem dX10_weigh_15 : decode cX10_weigh 15 = .ok (.aload_n 0, 1) := by decide +kernel
theorem dX10_weigh_16 : decode cX10_weigh 16 = .ok (.iconst 0, 1) := by decide +kernel
theorem dX10_weigh_17 : decode cX10_weigh 17 = .ok (.invokevirtual 95, 3) := by decide +kernel
theorem dX10_weigh_20 : decode cX10_weigh 20 = .ok (.ireturn, 1) := by decide +kernel
theorem dX10_start_0 : decode cX10_start 0 = .ok (.aload_n 0, 1) := by decide +kernel
theorem dX10_start_1 : decode cX10_start 1 = .ok (.getfield 19, 3) := by decide +kernel
theorem dX10_start_4 : decode cX10_start 4 = .ok (.iload_n 1, 1) := by decide +kernel
theorem dX10_start_5 : decode cX10_start 5 = .ok (.invokevirtual 110, 3) := by decide +kernel
theorem dX10_start_8 : decode cX10_start 8 = .ok (.astore 4, 2) := by decide +kernel
theorem dX10_start_10 : decode cX10_start 10 = .ok (.aload 4, 2) := by decide +kernel
theorem dX10_start_12 : decode cX10_start 12 = .ok (.ifnonnull 9, 3) := by decide +kernel
theorem dX10_start_15 : decode cX10_start 15 = .ok (.aload_n 0, 1) := by decide +kernel
theorem dX10_start_16 : decode cX10_start 16 = .ok (.iconst 0, 1) := by decide +kernel
theorem dX10_start_17 : decode cX10_start 17 = .ok (.invokevirtual 95, 3) := by decide +kernel
theorem dX10_start_20 : decode cX10_start 20 = .ok (.ireturn, 1) := by decide +kernel
theorem dX10_at_0 : decode cX10_at 0 = .ok (.aload_n 0, 1) := by decide +kernel
theorem dX10_at_1 : decode cX10_at 1 = .ok (.getfield 19, 3) := by decide +kernel
theorem dX10_at_4 : decode cX10_at 4 = .ok (.iload_n 2, 1) := by decide +kernel
theorem dX10_at_5 : decode cX10_at 5 = .ok (.invokevirtual 110, 3) := by decide +kernel
theorem dX10_at_8 : decode cX10_at 8 = .ok (.astore 6, 2) := by decide +kernel
theorem dX10_at_10 : decode cX10_at 10 = .ok (.aload 6, 2) := by decide +kernel
theorem dX10_at_12 : decode cX10_at 12 = .ok (.ifnull 29, 3) := by decide +kernel
theorem dX10_at_41 : decode cX10_at 41 = .ok (.iconst (-1), 1) := by decide +kernel
theorem dX10_at_42 : decode cX10_at 42 = .ok (.ireturn, 1) := by decide +kernel
theorem dX10_series_0 : decode cX10_series 0 = .ok (.aload_n 0, 1) := by decide +kernel
theorem dX10_series_1 : decode cX10_series 1 = .ok (.getfield 19, 3) := by decide +kernel
theorem dX10_series_4 : decode cX10_series 4 = .ok (.iload_n 1, 1) := by decide +kernel
theorem dX10_series_5 : decode cX10_series 5 = .ok (.invokevirtual 110, 3) := by decide +kernel
theorem dX10_series_8 : decode cX10_series 8 = .ok (.astore 4, 2) := by decide +kernel
theorem dX10_series_10 : decode cX10_series 10 = .ok (.aload 4, 2) := by decide +kernel
theorem dX10_series_12 : decode cX10_series 12 = .ok (.ifnull 17, 3) := by decide +kernel
theorem dX10_series_29 : decode cX10_series 29 = .ok (.iconst (-1), 1) := by decide +kernel
theorem dX10_series_30 : decode cX10_series 30 = .ok (.ireturn, 1) := by decide +kernel
theorem dX10_exact_0 : decode cX10_exact 0 = .ok (.aload_n 0, 1) := by decide +kernel
theorem dX10_exact_1 : decode cX10_exact 1 = .ok (.getfield 19, 3) := by decide +kernel
theorem dX10_exact_4 : decode cX10_exact 4 = .ok (.iload_n 1, 1) := by decide +kernel
theorem dX10_exact_5 : decode cX10_exact 5 = .ok (.invokevirtual 110, 3) := by decide +kernel
theorem dX10_exact_8 : decode cX10_exact 8 = .ok (.astore 5, 2) := by decide +kernel
theorem dX10_exact_10 : decode cX10_exact 10 = .ok (.aload 5, 2) := by decide +kernel
theorem dX10_exact_12 : decode cX10_exact 12 = .ok (.ifnull 31, 3) := by decide +kernel
theorem dX10_exact_43 : decode cX10_exact 43 = .ok (.ldc2_w 205, 3) := by decide +kernel
theorem w_757 : Cond.constantLong "QuarterWalks" 205 (-1) ∈ wAll := wIn 757 (by decide +kernel) (by decide +kernel)
theorem dX10_exact_46 : decode cX10_exact 46 = .ok (.lreturn, 1) := by decide +kernel
theorem dX10_bridge_0 : decode cX10_bridge 0 = .ok (.aload_n 0, 1) := by decide +kernel
theorem dX10_bridge_1 : decode cX10_bridge 1 = .ok (.getfield 19, 3) := by decide +kernel
theorem dX10_bridge_4 : decode cX10_bridge 4 = .ok (.iload_n 1, 1) := by decide +kernel
theorem dX10_bridge_5 : decode cX10_bridge 5 = .ok (.invokevirtual 110, 3) := by decide +kernel
theorem dX10_bridge_8 : decode cX10_bridge 8 = .ok (.astore 5, 2) := by decide +kernel
theorem dX10_bridge_10 : decode cX10_bridge 10 = .ok (.aload 5, 2) := by decide +kernel
theorem dX10_bridge_12 : decode cX10_bridge 12 = .ok (.ifnull 19, 3) := by decide +kernel
theorem dX10_bridge_31 : decode cX10_bridge 31 = .ok (.iconst (-1), 1) := by decide +kernel
theorem dX10_bridge_32 : decode cX10_bridge 32 = .ok (.ireturn, 1) := by decide +kernel
theorem dX10_reflected_0 : decode cX10_reflected 0 = .ok (.aload_n 0, 1) := by decide +kernel
theorem dX10_reflected_1 : decode cX10_reflected 1 = .ok (.getfield 19, 3) := by decide +kernel
theorem dX10_reflected_4 : decode cX10_reflected 4 = .ok (.iload_n 1, 1) := by decide +kernel
theorem dX10_reflected_5 : decode cX10_reflected 5 = .ok (.invokevirtual 110, 3) := by decide +kernel
theorem dX10_reflected_8 : decode cX10_reflected 8 = .ok (.astore 5, 2) := by decide +kernel
theorem dX10_reflected_10 : decode cX10_reflected 10 = .ok (.aload 5, 2) := by decide +kernel
theorem dX10_reflected_12 : decode cX10_reflected 12 = .ok (.ifnull 31, 3) := by decide +kernel
theorem dX10_reflected_43 : decode cX10_reflected 43 = .ok (.ldc 218, 2) := by decide +kernel
theorem w_772 : Cond.constant "QuarterWalks" 218 (-1000000) ∈ wAll := wIn 772 (by decide +kernel) (by decide +kernel)
theorem dX10_reflected_45 : decode cX10_reflected 45 = .ok (.ireturn, 1) := by decide +kernel
theorem dX10_rank_0 : decode cX10_rank 0 = .ok (.aload_n 0, 1) := by decide +kernel
theorem dX10_rank_1 : decode cX10_rank 1 = .ok (.getfield 19, 3) := by decide +kernel
theorem dX10_rank_4 : decode cX10_rank 4 = .ok (.iload_n 1, 1) := by decide +kernel
theorem dX10_rank_5 : decode cX10_rank 5 = .ok (.invokevirtual 110, 3) := by decide +kernel
theorem dX10_rank_8 : decode cX10_rank 8 = .ok (.astore_n 3, 1) := by decide +kernel
theorem dX10_rank_9 : decode cX10_rank 9 = .ok (.aload_n 3, 1) := by decide +kernel
theorem dX10_rank_10 : decode cX10_rank 10 = .ok (.ifnull 13, 3) := by decide +kernel
theorem dX10_rank_23 : decode cX10_rank 23 = .ok (.iconst (-1), 1) := by decide +kernel
theorem dX10_rank_24 : decode cX10_rank 24 = .ok (.ireturn, 1) := by decide +kernel
theorem dX10_ratio_0 : decode cX10_ratio 0 = .ok (.aload_n 0, 1) := by decide +kernel
theorem dX10_ratio_1 : decode cX10_ratio 1 = .ok (.getfield 19, 3) := by decide +kernel
theorem dX10_ratio_4 : decode cX10_ratio 4 = .ok (.iload_n 1, 1) := by decide +kernel
theorem dX10_ratio_5 : decode cX10_ratio 5 = .ok (.invokevirtual 110, 3) := by decide +kernel
theorem dX10_ratio_8 : decode cX10_ratio 8 = .ok (.astore 4, 2) := by decide +kernel
theorem dX10_ratio_10 : decode cX10_ratio 10 = .ok (.aload 4, 2) := by decide +kernel
theorem dX10_ratio_12 : decode cX10_ratio 12 = .ok (.ifnull 20, 3) := by decide +kernel
theorem dX10_ratio_32 : decode cX10_ratio 32 = .ok (.iconst (-1), 1) := by decide +kernel
theorem dX10_ratio_33 : decode cX10_ratio 33 = .ok (.ireturn, 1) := by decide +kernel
theorem dX10_hankel_0 : decode cX10_hankel 0 = .ok (.aload_n 0, 1) := by decide +kernel
theorem dX10_hankel_1 : decode cX10_hankel 1 = .ok (.getfield 19, 3) := by decide +kernel
theorem dX10_hankel_4 : decode cX10_hankel 4 = .ok (.iload_n 1, 1) := by decide +kernel
theorem dX10_hankel_5 : decode cX10_hankel 5 = .ok (.invokevirtual 110, 3) := by decide +kernel
theorem dX10_hankel_8 : decode cX10_hankel 8 = .ok (.astore 4, 2) := by decide +kernel
theorem dX10_hankel_10 : decode cX10_hankel 10 = .ok (.aload 4, 2) := by decide +kernel
theorem dX10_hankel_12 : decode cX10_hankel 12 = .ok (.ifnull 20, 3) := by decide +kernel
theorem dX10_hankel_32 : decode cX10_hankel 32 = .ok (.iconst (-1), 1) := by decide +kernel
theorem dX10_hankel_33 : decode cX10_hankel 33 = .ok (.ireturn, 1) := by decide +kernel
theorem dX10_convolved_0 : decode cX10_convolved 0 = .ok (.aload_n 0, 1) := by decide +kernel
theorem dX10_convolved_1 : decode cX10_convolved 1 = .ok (.getfield 19, 3) := by decide +kernel
theorem dX10_convolved_4 : decode cX10_convolved 4 = .ok (.iload_n 1, 1) := by decide +kernel
theorem dX10_convolved_5 : decode cX10_convolved 5 = .ok (.invokevirtual 110, 3) := by decide +kernel
theorem dX10_convolved_8 : decode cX10_convolved 8 = .ok (.astore 6, 2) := by decide +kernel
theorem dX10_convolved_10 : decode cX10_convolved 10 = .ok (.aload_n 0, 1) := by decide +kernel
theorem dX10_convolved_11 : decode cX10_convolved 11 = .ok (.getfield 19, 3) := by decide +kernel
theorem dX10_convolved_14 : decode cX10_convolved 14 = .ok (.iload_n 3, 1) := by decide +kernel
theorem dX10_convolved_15 : decode cX10_convolved 15 = .ok (.invokevirtual 110, 3) := by decide +kernel
theorem dX10_convolved_18 : decode cX10_convolved 18 = .ok (.astore 7, 2) := by decide +kernel
theorem dX10_convolved_20 : decode cX10_convolved 20 = .ok (.aload 6, 2) := by decide +kernel
theorem dX10_convolved_22 : decode cX10_convolved 22 = .ok (.ifnull 31, 3) := by decide +kernel
theorem dX10_convolved_53 : decode cX10_convolved 53 = .ok (.iconst (-1), 1) := by decide +kernel
theorem dX10_convolved_54 : decode cX10_convolved 54 = .ok (.ireturn, 1) := by decide +kernel
theorem dX10_out_0 : decode cX10_out 0 = .ok (.aload_n 0, 1) := by decide +kernel
theorem dX10_out_1 : decode cX10_out 1 = .ok (.getfield 19, 3) := by decide +kernel
theorem dX10_out_4 : decode cX10_out 4 = .ok (.iload_n 1, 1) := by decide +kernel
theorem dX10_out_5 : decode cX10_out 5 = .ok (.invokevirtual 110, 3) := by decide +kernel
theorem dX10_out_8 : decode cX10_out 8 = .ok (.astore_n 3, 1) := by decide +kernel
theorem dX10_out_9 : decode cX10_out 9 = .ok (.aload_n 3, 1) := by decide +kernel
theorem dX10_out_10 : decode cX10_out 10 = .ok (.ifnull 10, 3) := by decide +kernel
theorem dX10_out_20 : decode cX10_out 20 = .ok (.iconst (-1), 1) := by decide +kernel
theorem dX10_out_21 : decode cX10_out 21 = .ok (.ireturn, 1) := by decide +kernel
theorem dX10_arches_0 : decode cX10_arches 0 = .ok (.aload_n 0, 1) := by decide +kernel
theorem dX10_arches_1 : decode cX10_arches 1 = .ok (.getfield 19, 3) := by decide +kernel
theorem dX10_arches_4 : decode cX10_arches 4 = .ok (.iload_n 1, 1) := by decide +kernel
theorem dX10_arches_5 : decode cX10_arches 5 = .ok (.invokevirtual 110, 3) := by decide +kernel
theorem dX10_arches_8 : decode cX10_arches 8 = .ok (.astore_n 3, 1) := by decide +kernel
theorem dX10_arches_9 : decode cX10_arches 9 = .ok (.aload_n 3, 1) := by decide +kernel
theorem dX10_arches_10 : decode cX10_arches 10 = .ok (.ifnull 13, 3) := by decide +kernel
theorem dX10_arches_23 : decode cX10_arches 23 = .ok (.iconst (-1), 1) := by decide +kernel
theorem dX10_arches_24 : decode cX10_arches 24 = .ok (.ireturn, 1) := by decide +kernel
theorem dX10_value_0 : decode cX10_value 0 = .ok (.aload_n 0, 1) := by decide +kernel
theorem dX10_value_1 : decode cX10_value 1 = .ok (.getfield 19, 3) := by decide +kernel
theorem dX10_value_4 : decode cX10_value 4 = .ok (.iload_n 1, 1) := by decide +kernel
theorem dX10_value_5 : decode cX10_value 5 = .ok (.invokevirtual 110, 3) := by decide +kernel
theorem dX10_value_8 : decode cX10_value 8 = .ok (.astore 5, 2) := by decide +kernel
theorem dX10_value_10 : decode cX10_value 10 = .ok (.aload 5, 2) := by decide +kernel
theorem dX10_value_12 : decode cX10_value 12 = .ok (.ifnull 31, 3) := by decide +kernel
theorem dX10_value_43 : decode cX10_value 43 = .ok (.iconst (-1), 1) := by decide +kernel
theorem dX10_value_44 : decode cX10_value 44 = .ok (.ireturn, 1) := by decide +kernel
theorem dX10_walk_0 : decode cX10_walk 0 = .ok (.aload_n 0, 1) := by decide +kernel
theorem dX10_walk_1 : decode cX10_walk 1 = .ok (.getfield 19, 3) := by decide +kernel
theorem dX10_walk_4 : decode cX10_walk 4 = .ok (.iload_n 1, 1) := by decide +kernel
theorem dX10_walk_5 : decode cX10_walk 5 = .ok (.invokevirtual 110, 3) := by decide +kernel
theorem dX10_walk_8 : decode cX10_walk 8 = .ok (.astore 7, 2) := by decide +kernel
theorem dX10_walk_10 : decode cX10_walk 10 = .ok (.aload 7, 2) := by decide +kernel
theorem dX10_walk_12 : decode cX10_walk 12 = .ok (.ifnull 22, 3) := by decide +kernel
theorem dX10_walk_34 : decode cX10_walk 34 = .ok (.ldc 218, 2) := by decide +kernel
theorem dX10_walk_36 : decode cX10_walk 36 = .ok (.ireturn, 1) := by decide +kernel
theorem dX10_drawn_0 : decode cX10_drawn 0 = .ok (.aload_n 0, 1) := by decide +kernel
theorem dX10_drawn_1 : decode cX10_drawn 1 = .ok (.getfield 19, 3) := by decide +kernel
theorem dX10_drawn_4 : decode cX10_drawn 4 = .ok (.iload_n 1, 1) := by decide +kernel
theorem dX10_drawn_5 : decode cX10_drawn 5 = .ok (.invokevirtual 110, 3) := by decide +kernel
theorem dX10_drawn_8 : decode cX10_drawn 8 = .ok (.astore 8, 2) := by decide +kernel
theorem dX10_drawn_10 : decode cX10_drawn 10 = .ok (.aload 8, 2) := by decide +kernel
theorem dX10_drawn_12 : decode cX10_drawn 12 = .ok (.ifnull 34, 3) := by decide +kernel
theorem dX10_drawn_46 : decode cX10_drawn 46 = .ok (.ldc 218, 2) := by decide +kernel
theorem dX10_drawn_48 : decode cX10_drawn 48 = .ok (.ireturn, 1) := by decide +kernel
theorem dX10_peak_0 : decode cX10_peak 0 = .ok (.aload_n 0, 1) := by decide +kernel
theorem dX10_peak_1 : decode cX10_peak 1 = .ok (.getfield 19, 3) := by decide +kernel
theorem dX10_peak_4 : decode cX10_peak 4 = .ok (.iload_n 1, 1) := by decide +kernel
theorem dX10_peak_5 : decode cX10_peak 5 = .ok (.invokevirtual 110, 3) := by decide +kernel
theorem dX10_peak_8 : decode cX10_peak 8 = .ok (.astore 4, 2) := by decide +kernel
theorem dX10_peak_10 : decode cX10_peak 10 = .ok (.aload 4, 2) := by decide +kernel
theorem dX10_peak_12 : decode cX10_peak 12 = .ok (.ifnull 22, 3) := by decide +kernel
theorem dX10_peak_34 : decode cX10_peak 34 = .ok (.ldc 218, 2) := by decide +kernel
theorem dX10_peak_36 : decode cX10_peak 36 = .ok (.ireturn, 1) := by decide +kernel
theorem dX10_points_0 : decode cX10_points 0 = .ok (.aload_n 0, 1) := by decide +kernel
theorem dX10_points_1 : decode cX10_points 1 = .ok (.getfield 19, 3) := by decide +kernel
theorem dX10_points_4 : decode cX10_points 4 = .ok (.iload_n 1, 1) := by decide +kernel
theorem dX10_points_5 : decode cX10_points 5 = .ok (.invokevirtual 110, 3) := by decide +kernel
theorem dX10_points_8 : decode cX10_points 8 = .ok (.astore_n 3, 1) := by decide +kernel
theorem dX10_points_9 : decode cX10_points 9 = .ok (.aload_n 3, 1) := by decide +kernel
theorem dX10_points_10 : decode cX10_points 10 = .ok (.ifnull 10, 3) := by decide +kernel
theorem dX10_points_20 : decode cX10_points 20 = .ok (.iconst (-1), 1) := by decide +kernel
theorem dX10_points_21 : decode cX10_points 21 = .ok (.ireturn, 1) := by decide +kernel
theorem dX10_fewest_0 : decode cX10_fewest 0 = .ok (.aload_n 0, 1) := by decide +kernel
theorem dX10_fewest_1 : decode cX10_fewest 1 = .ok (.getfield 19, 3) := by decide +kernel
theorem dX10_fewest_4 : decode cX10_fewest 4 = .ok (.iload_n 1, 1) := by decide +kernel
theorem dX10_fewest_5 : decode cX10_fewest 5 = .ok (.invokevirtual 110, 3) := by decide +kernel
theorem dX10_fewest_8 : decode cX10_fewest 8 = .ok (.astore 4, 2) := by decide +kernel
theorem dX10_fewest_10 : decode cX10_fewest 10 = .ok (.aload 4, 2) := by decide +kernel
theorem dX10_fewest_12 : decode cX10_fewest 12 = .ok (.ifnull 11, 3) := by decide +kernel
theorem dX10_fewest_23 : decode cX10_fewest 23 = .ok (.iconst (-1), 1) := by decide +kernel
theorem dX10_fewest_24 : decode cX10_fewest 24 = .ok (.ireturn, 1) := by decide +kernel
theorem dX10_period_0 : decode cX10_period 0 = .ok (.aload_n 0, 1) := by decide +kernel
theorem dX10_period_1 : decode cX10_period 1 = .ok (.getfield 19, 3) := by decide +kernel
theorem dX10_period_4 : decode cX10_period 4 = .ok (.iload_n 1, 1) := by decide +kernel
theorem dX10_period_5 : decode cX10_period 5 = .ok (.invokevirtual 110, 3) := by decide +kernel
theorem dX10_period_8 : decode cX10_period 8 = .ok (.astore_n 2, 1) := by decide +kernel
theorem dX10_period_9 : decode cX10_period 9 = .ok (.aload_n 2, 1) := by decide +kernel
theorem dX10_period_10 : decode cX10_period 10 = .ok (.ifnonnull 5, 3) := by decide +kernel
theorem dX10_period_13 : decode cX10_period 13 = .ok (.iconst (-1), 1) := by decide +kernel
theorem dX10_period_14 : decode cX10_period 14 = .ok (.ireturn, 1) := by decide +kernel
theorem dX10_meet_0 : decode cX10_meet 0 = .ok (.aload_n 0, 1) := by decide +kernel
theorem dX10_meet_1 : decode cX10_meet 1 = .ok (.getfield 19, 3) := by decide +kernel
theorem dX10_meet_4 : decode cX10_meet 4 = .ok (.iload_n 1, 1) := by decide +kernel
theorem dX10_meet_5 : decode cX10_meet 5 = .ok (.invokevirtual 110, 3) := by decide +kernel
theorem dX10_meet_8 : decode cX10_meet 8 = .ok (.astore 4, 2) := by decide +kernel
theorem dX10_meet_10 : decode cX10_meet 10 = .ok (.aload_n 0, 1) := by decide +kernel
theorem dX10_meet_11 : decode cX10_meet 11 = .ok (.getfield 19, 3) := by decide +kernel
theorem dX10_meet_14 : decode cX10_meet 14 = .ok (.iload_n 2, 1) := by decide +kernel
theorem dX10_meet_15 : decode cX10_meet 15 = .ok (.invokevirtual 110, 3) := by decide +kernel
theorem dX10_meet_18 : decode cX10_meet 18 = .ok (.astore 5, 2) := by decide +kernel
theorem dX10_meet_20 : decode cX10_meet 20 = .ok (.aload 4, 2) := by decide +kernel
theorem dX10_meet_22 : decode cX10_meet 22 = .ok (.ifnull 15, 3) := by decide +kernel
theorem dX10_meet_37 : decode cX10_meet 37 = .ok (.iconst (-1), 1) := by decide +kernel
theorem dX10_meet_38 : decode cX10_meet 38 = .ok (.ireturn, 1) := by decide +kernel
theorem dX10_kernel_0 : decode cX10_kernel 0 = .ok (.aload_n 0, 1) := by decide +kernel
theorem dX10_kernel_1 : decode cX10_kernel 1 = .ok (.getfield 19, 3) := by decide +kernel
theorem dX10_kernel_4 : decode cX10_kernel 4 = .ok (.iload_n 1, 1) := by decide +kernel
theorem dX10_kernel_5 : decode cX10_kernel 5 = .ok (.invokevirtual 110, 3) := by decide +kernel
theorem dX10_kernel_8 : decode cX10_kernel 8 = .ok (.astore 4, 2) := by decide +kernel
theorem dX10_kernel_10 : decode cX10_kernel 10 = .ok (.aload 4, 2) := by decide +kernel
theorem dX10_kernel_12 : decode cX10_kernel 12 = .ok (.ifnull 17, 3) := by decide +kernel
theorem dX10_kernel_29 : decode cX10_kernel 29 = .ok (.iconst (-1), 1) := by decide +kernel
theorem dX10_kernel_30 : decode cX10_kernel 30 = .ok (.ireturn, 1) := by decide +kernel
theorem dX10_turned_0 : decode cX10_turned 0 = .ok (.aload_n 0, 1) := by decide +kernel
theorem dX10_turned_1 : decode cX10_turned 1 = .ok (.getfield 19, 3) := by decide +kernel
theorem dX10_turned_4 : decode cX10_turned 4 = .ok (.iload_n 1, 1) := by decide +kernel
theorem dX10_turned_5 : decode cX10_turned 5 = .ok (.invokevirtual 110, 3) := by decide +kernel
theorem dX10_turned_8 : decode cX10_turned 8 = .ok (.astore 5, 2) := by decide +kernel
theorem dX10_turned_10 : decode cX10_turned 10 = .ok (.aload 5, 2) := by decide +kernel
theorem dX10_turned_12 : decode cX10_turned 12 = .ok (.ifnull 27, 3) := by decide +kernel
theorem dX10_turned_39 : decode cX10_turned 39 = .ok (.iconst (-1), 1) := by decide +kernel
theorem dX10_turned_40 : decode cX10_turned 40 = .ok (.ireturn, 1) := by decide +kernel
theorem dX10_orbit_0 : decode cX10_orbit 0 = .ok (.aload_n 0, 1) := by decide +kernel
theorem dX10_orbit_1 : decode cX10_orbit 1 = .ok (.getfield 19, 3) := by decide +kernel
theorem dX10_orbit_4 : decode cX10_orbit 4 = .ok (.iload_n 1, 1) := by decide +kernel
theorem dX10_orbit_5 : decode cX10_orbit 5 = .ok (.invokevirtual 110, 3) := by decide +kernel
theorem dX10_orbit_8 : decode cX10_orbit 8 = .ok (.astore 6, 2) := by decide +kernel
theorem dX10_orbit_10 : decode cX10_orbit 10 = .ok (.iload 4, 2) := by decide +kernel
theorem dX10_orbit_12 : decode cX10_orbit 12 = .ok (.iconst (-1), 1) := by decide +kernel
theorem dX10_orbit_13 : decode cX10_orbit 13 = .ok (.if_icmp .eq 13, 3) := by decide +kernel
theorem dX10_orbit_26 : decode cX10_orbit 26 = .ok (.iconst 1, 1) := by decide +kernel
theorem dX10_orbit_27 : decode cX10_orbit 27 = .ok (.goto 4, 3) := by decide +kernel
theorem dX10_orbit_31 : decode cX10_orbit 31 = .ok (.istore 7, 2) := by decide +kernel
theorem dX10_orbit_33 : decode cX10_orbit 33 = .ok (.aload 6, 2) := by decide +kernel
theorem dX10_orbit_35 : decode cX10_orbit 35 = .ok (.ifnull 22, 3) := by decide +kernel
theorem dX10_orbit_57 : decode cX10_orbit 57 = .ok (.bipush (-2), 2) := by decide +kernel
theorem dX10_orbit_59 : decode cX10_orbit 59 = .ok (.ireturn, 1) := by decide +kernel
theorem dX10_orbit_16 : decode cX10_orbit 16 = .ok (.iload 5, 2) := by decide +kernel
theorem dX10_orbit_18 : decode cX10_orbit 18 = .ok (.iconst 0, 1) := by decide +kernel
theorem dX10_orbit_19 : decode cX10_orbit 19 = .ok (.iconst 1, 1) := by decide +kernel
theorem dX10_orbit_20 : decode cX10_orbit 20 = .ok (.invokestatic 87, 3) := by decide +kernel
theorem w_425 : Cond.methodLink "QuarterWalks" 87 yX10_within ∈ wAll := wIn 425 (by decide +kernel) (by decide +kernel)
theorem dX10_orbit_23 : decode cX10_orbit 23 = .ok (.ifCond .eq 7, 3) := by decide +kernel
theorem dX10_orbit_30 : decode cX10_orbit 30 = .ok (.iconst 0, 1) := by decide +kernel
theorem dX10_group_0 : decode cX10_group 0 = .ok (.aload_n 0, 1) := by decide +kernel
theorem dX10_group_1 : decode cX10_group 1 = .ok (.getfield 19, 3) := by decide +kernel
theorem dX10_group_4 : decode cX10_group 4 = .ok (.iload_n 1, 1) := by decide +kernel
theorem dX10_group_5 : decode cX10_group 5 = .ok (.invokevirtual 110, 3) := by decide +kernel
theorem dX10_group_8 : decode cX10_group 8 = .ok (.astore_n 2, 1) := by decide +kernel
theorem dX10_group_9 : decode cX10_group 9 = .ok (.aload_n 2, 1) := by decide +kernel
theorem dX10_group_10 : decode cX10_group 10 = .ok (.ifnonnull 8, 3) := by decide +kernel
theorem dX10_group_13 : decode cX10_group 13 = .ok (.bipush (-2), 2) := by decide +kernel
theorem dX10_group_15 : decode cX10_group 15 = .ok (.goto 11, 3) := by decide +kernel
theorem dX10_group_26 : decode cX10_group 26 = .ok (.ireturn, 1) := by decide +kernel
theorem dX10_sum_0 : decode cX10_sum 0 = .ok (.aload_n 0, 1) := by decide +kernel
theorem dX10_sum_1 : decode cX10_sum 1 = .ok (.getfield 19, 3) := by decide +kernel
theorem dX10_sum_4 : decode cX10_sum 4 = .ok (.iload_n 1, 1) := by decide +kernel
theorem dX10_sum_5 : decode cX10_sum 5 = .ok (.invokevirtual 110, 3) := by decide +kernel
theorem dX10_sum_8 : decode cX10_sum 8 = .ok (.astore 4, 2) := by decide +kernel
theorem dX10_sum_10 : decode cX10_sum 10 = .ok (.aload 4, 2) := by decide +kernel
theorem dX10_sum_12 : decode cX10_sum 12 = .ok (.ifnull 17, 3) := by decide +kernel
theorem dX10_sum_29 : decode cX10_sum 29 = .ok (.bipush (-2), 2) := by decide +kernel
theorem dX10_sum_31 : decode cX10_sum 31 = .ok (.ireturn, 1) := by decide +kernel
theorem dX10_noUse_0 : decode cX10_noUse 0 = .ok (.aload_n 0, 1) := by decide +kernel
theorem dX10_noUse_1 : decode cX10_noUse 1 = .ok (.getfield 19, 3) := by decide +kernel
theorem dX10_noUse_4 : decode cX10_noUse 4 = .ok (.iload_n 1, 1) := by decide +kernel
theorem dX10_noUse_5 : decode cX10_noUse 5 = .ok (.invokevirtual 110, 3) := by decide +kernel
theorem dX10_noUse_8 : decode cX10_noUse 8 = .ok (.astore_n 2, 1) := by decide +kernel
theorem dX10_noUse_9 : decode cX10_noUse 9 = .ok (.aload_n 2, 1) := by decide +kernel
theorem dX10_noUse_10 : decode cX10_noUse 10 = .ok (.ifnonnull 5, 3) := by decide +kernel
theorem dX10_noUse_13 : decode cX10_noUse 13 = .ok (.iconst (-1), 1) := by decide +kernel
theorem dX10_noUse_14 : decode cX10_noUse 14 = .ok (.ireturn, 1) := by decide +kernel
theorem dX10_enough_0 : decode cX10_enough 0 = .ok (.aload_n 0, 1) := by decide +kernel
theorem dX10_enough_1 : decode cX10_enough 1 = .ok (.getfield 19, 3) := by decide +kernel
theorem dX10_enough_4 : decode cX10_enough 4 = .ok (.iload_n 1, 1) := by decide +kernel
theorem dX10_enough_5 : decode cX10_enough 5 = .ok (.invokevirtual 110, 3) := by decide +kernel
theorem dX10_enough_8 : decode cX10_enough 8 = .ok (.astore_n 2, 1) := by decide +kernel
theorem dX10_enough_9 : decode cX10_enough 9 = .ok (.aload_n 2, 1) := by decide +kernel
theorem dX10_enough_10 : decode cX10_enough 10 = .ok (.ifnonnull 5, 3) := by decide +kernel
theorem dX10_enough_13 : decode cX10_enough 13 = .ok (.iconst (-1), 1) := by decide +kernel
theorem dX10_enough_14 : decode cX10_enough 14 = .ok (.ireturn, 1) := by decide +kernel
theorem dX10_alike_0 : decode cX10_alike 0 = .ok (.aload_n 0, 1) := by decide +kernel
theorem dX10_alike_1 : decode cX10_alike 1 = .ok (.getfield 19, 3) := by decide +kernel
theorem dX10_alike_4 : decode cX10_alike 4 = .ok (.iload_n 1, 1) := by decide +kernel
theorem dX10_alike_5 : decode cX10_alike 5 = .ok (.invokevirtual 110, 3) := by decide +kernel
theorem dX10_alike_8 : decode cX10_alike 8 = .ok (.astore_n 2, 1) := by decide +kernel
theorem dX10_alike_9 : decode cX10_alike 9 = .ok (.aload_n 2, 1) := by decide +kernel
theorem dX10_alike_10 : decode cX10_alike 10 = .ok (.ifnonnull 5, 3) := by decide +kernel
theorem dX10_alike_13 : decode cX10_alike 13 = .ok (.iconst (-1), 1) := by decide +kernel
theorem dX10_alike_14 : decode cX10_alike 14 = .ok (.ireturn, 1) := by decide +kernel
theorem dX10_recurrence_0 : decode cX10_recurrence 0 = .ok (.aload_n 0, 1) := by decide +kernel
theorem dX10_recurrence_1 : decode cX10_recurrence 1 = .ok (.iload_n 1, 1) := by decide +kernel
theorem dX10_recurrence_2 : decode cX10_recurrence 2 = .ok (.iload_n 2, 1) := by decide +kernel
theorem dX10_recurrence_3 : decode cX10_recurrence 3 = .ok (.iconst 0, 1) := by decide +kernel
theorem dX10_recurrence_4 : decode cX10_recurrence 4 = .ok (.iload_n 3, 1) := by decide +kernel
theorem dX10_recurrence_5 : decode cX10_recurrence 5 = .ok (.iload 4, 2) := by decide +kernel
theorem dX10_recurrence_7 : decode cX10_recurrence 7 = .ok (.invokevirtual 328, 3) := by decide +kernel
theorem w_1026 : Cond.methodLink "QuarterWalks" 328 yX10_readies ∈ wAll := wIn 1026 (by decide +kernel) (by decide +kernel)
theorem w_27 : Cond.selects yX10_readies.cls yX10_readies yX10_readies ∈ wAll := wIn 27 (by decide +kernel) (by decide +kernel)
theorem mk_X10_readies : mk yX10_readies 5 := ⟨by decide +kernel, w_96⟩
theorem w_1028 : Cond.instanceMethod yX10_readies ∈ wAll := wIn 1028 (by decide +kernel) (by decide +kernel)
theorem w_1029 : Cond.code yX10_readies cX10_readies 7 (some .boolean) ∈ wAll := wIn 1029 (by decide +kernel) (by decide +kernel)
theorem dX10_recurrence_10 : decode cX10_recurrence 10 = .ok (.istore 7, 2) := by decide +kernel
theorem dX10_recurrence_12 : decode cX10_recurrence 12 = .ok (.iload 7, 2) := by decide +kernel
theorem dX10_recurrence_14 : decode cX10_recurrence 14 = .ok (.ifCond .eq 41, 3) := by decide +kernel
theorem dX10_recurrence_55 : decode cX10_recurrence 55 = .ok (.ldc 218, 2) := by decide +kernel
theorem dX10_recurrence_57 : decode cX10_recurrence 57 = .ok (.ireturn, 1) := by decide +kernel
theorem dX10_fails_0 : decode cX10_fails 0 = .ok (.aload_n 0, 1) := by decide +kernel
theorem dX10_fails_1 : decode cX10_fails 1 = .ok (.iload_n 1, 1) := by decide +kernel
theorem dX10_fails_2 : decode cX10_fails 2 = .ok (.iload_n 2, 1) := by decide +kernel
theorem dX10_fails_3 : decode cX10_fails 3 = .ok (.iconst 0, 1) := by decide +kernel
theorem dX10_fails_4 : decode cX10_fails 4 = .ok (.iload_n 3, 1) := by decide +kernel
theorem dX10_fails_5 : decode cX10_fails 5 = .ok (.iload 4, 2) := by decide +kernel
theorem dX10_fails_7 : decode cX10_fails 7 = .ok (.invokevirtual 328, 3) := by decide +kernel
theorem dX10_fails_10 : decode cX10_fails 10 = .ok (.ifCond .eq 16, 3) := by decide +kernel
theorem dX10_fails_26 : decode cX10_fails 26 = .ok (.ldc 218, 2) := by decide +kernel
theorem dX10_fails_28 : decode cX10_fails 28 = .ok (.ireturn, 1) := by decide +kernel
theorem dX10_equation_0 : decode cX10_equation 0 = .ok (.aload_n 0, 1) := by decide +kernel
theorem dX10_equation_1 : decode cX10_equation 1 = .ok (.iload_n 1, 1) := by decide +kernel
theorem dX10_equation_2 : decode cX10_equation 2 = .ok (.iload_n 2, 1) := by decide +kernel
theorem dX10_equation_3 : decode cX10_equation 3 = .ok (.iconst 1, 1) := by decide +kernel
theorem dX10_equation_4 : decode cX10_equation 4 = .ok (.iload_n 3, 1) := by decide +kernel
theorem dX10_equation_5 : decode cX10_equation 5 = .ok (.iload 4, 2) := by decide +kernel
theorem dX10_equation_7 : decode cX10_equation 7 = .ok (.invokevirtual 328, 3) := by decide +kernel
theorem dX10_equation_10 : decode cX10_equation 10 = .ok (.istore 7, 2) := by decide +kernel
theorem dX10_equation_12 : decode cX10_equation 12 = .ok (.iload 7, 2) := by decide +kernel
theorem dX10_equation_14 : decode cX10_equation 14 = .ok (.ifCond .eq 41, 3) := by decide +kernel
theorem dX10_equation_55 : decode cX10_equation 55 = .ok (.ldc 218, 2) := by decide +kernel
theorem dX10_equation_57 : decode cX10_equation 57 = .ok (.ireturn, 1) := by decide +kernel
theorem dX10_breaks_0 : decode cX10_breaks 0 = .ok (.aload_n 0, 1) := by decide +kernel
theorem dX10_breaks_1 : decode cX10_breaks 1 = .ok (.iload_n 1, 1) := by decide +kernel
theorem dX10_breaks_2 : decode cX10_breaks 2 = .ok (.iload_n 2, 1) := by decide +kernel
theorem dX10_breaks_3 : decode cX10_breaks 3 = .ok (.iconst 1, 1) := by decide +kernel
theorem dX10_breaks_4 : decode cX10_breaks 4 = .ok (.iload_n 3, 1) := by decide +kernel
theorem dX10_breaks_5 : decode cX10_breaks 5 = .ok (.iload 4, 2) := by decide +kernel
theorem dX10_breaks_7 : decode cX10_breaks 7 = .ok (.invokevirtual 328, 3) := by decide +kernel
theorem dX10_breaks_10 : decode cX10_breaks 10 = .ok (.ifCond .eq 16, 3) := by decide +kernel
theorem dX10_breaks_26 : decode cX10_breaks 26 = .ok (.ldc 218, 2) := by decide +kernel
theorem dX10_breaks_28 : decode cX10_breaks 28 = .ok (.ireturn, 1) := by decide +kernel
theorem dX10_least_0 : decode cX10_least 0 = .ok (.aload_n 0, 1) := by decide +kernel
theorem dX10_least_1 : decode cX10_least 1 = .ok (.getfield 19, 3) := by decide +kernel
theorem dX10_least_4 : decode cX10_least 4 = .ok (.iload_n 1, 1) := by decide +kernel
theorem dX10_least_5 : decode cX10_least 5 = .ok (.invokevirtual 110, 3) := by decide +kernel
theorem dX10_least_8 : decode cX10_least 8 = .ok (.astore 4, 2) := by decide +kernel
theorem dX10_least_10 : decode cX10_least 10 = .ok (.aload 4, 2) := by decide +kernel
theorem dX10_least_12 : decode cX10_least 12 = .ok (.ifnull 19, 3) := by decide +kernel
theorem dX10_least_31 : decode cX10_least 31 = .ok (.ldc 218, 2) := by decide +kernel
theorem dX10_least_33 : decode cX10_least 33 = .ok (.ireturn, 1) := by decide +kernel
theorem dX10_written_0 : decode cX10_written 0 = .ok (.aload_n 0, 1) := by decide +kernel
theorem dX10_written_1 : decode cX10_written 1 = .ok (.getfield 19, 3) := by decide +kernel
theorem dX10_written_4 : decode cX10_written 4 = .ok (.iload_n 1, 1) := by decide +kernel
theorem dX10_written_5 : decode cX10_written 5 = .ok (.invokevirtual 110, 3) := by decide +kernel
theorem dX10_written_8 : decode cX10_written 8 = .ok (.astore_n 3, 1) := by decide +kernel
theorem dX10_written_9 : decode cX10_written 9 = .ok (.aload_n 3, 1) := by decide +kernel
theorem dX10_written_10 : decode cX10_written 10 = .ok (.ifnonnull 5, 3) := by decide +kernel
theorem dX10_written_13 : decode cX10_written 13 = .ok (.iconst (-1), 1) := by decide +kernel
theorem dX10_written_14 : decode cX10_written 14 = .ok (.ireturn, 1) := by decide +kernel
theorem dX11_isGuess_0 : decode cX11_isGuess 0 = .ok (.aload_n 0, 1) := by decide +kernel
theorem dX11_isGuess_1 : decode cX11_isGuess 1 = .ok (.iload_n 1, 1) := by decide +kernel
theorem dX11_isGuess_2 : decode cX11_isGuess 2 = .ok (.invokevirtual 171, 3) := by decide +kernel
theorem w_1624 : Cond.methodLink "QuarterWalksModel" 171 yX11_isSet ∈ wAll := wIn 1624 (by decide +kernel) (by decide +kernel)
theorem w_51 : Cond.selects yX11_isSet.cls yX11_isSet yX11_isSet ∈ wAll := wIn 51 (by decide +kernel) (by decide +kernel)
theorem mk_X11_isSet : mk yX11_isSet 1 := ⟨by decide +kernel, w_110⟩
theorem w_1626 : Cond.instanceMethod yX11_isSet ∈ wAll := wIn 1626 (by decide +kernel) (by decide +kernel)
theorem w_1627 : Cond.code yX11_isSet cX11_isSet 2 (some .boolean) ∈ wAll := wIn 1627 (by decide +kernel) (by decide +kernel)
theorem dX11_isGuess_5 : decode cX11_isGuess 5 = .ok (.ifCond .eq 65, 3) := by decide +kernel
theorem dX11_isGuess_70 : decode cX11_isGuess 70 = .ok (.iconst 0, 1) := by decide +kernel
theorem dX11_isGuess_71 : decode cX11_isGuess 71 = .ok (.ireturn, 1) := by decide +kernel
theorem dX11_numberOf_0 : decode cX11_numberOf 0 = .ok (.aload_n 0, 1) := by decide +kernel
theorem dX11_numberOf_1 : decode cX11_numberOf 1 = .ok (.iload_n 1, 1) := by decide +kernel
theorem dX11_numberOf_2 : decode cX11_numberOf 2 = .ok (.iload_n 2, 1) := by decide +kernel
theorem dX11_numberOf_3 : decode cX11_numberOf 3 = .ok (.iload_n 3, 1) := by decide +kernel
theorem dX11_numberOf_4 : decode cX11_numberOf 4 = .ok (.iload 4, 2) := by decide +kernel
theorem dX11_numberOf_6 : decode cX11_numberOf 6 = .ok (.iload 5, 2) := by decide +kernel
theorem dX11_numberOf_8 : decode cX11_numberOf 8 = .ok (.invokevirtual 396, 3) := by decide +kernel
theorem w_1940 : Cond.methodLink "QuarterWalksModel" 396 yX11_isGuess ∈ wAll := wIn 1940 (by decide +kernel) (by decide +kernel)
theorem w_78 : Cond.selects yX11_isGuess.cls yX11_isGuess yX11_isGuess ∈ wAll := wIn 78 (by decide +kernel) (by decide +kernel)
theorem mk_X11_isGuess : mk yX11_isGuess 5 := ⟨by decide +kernel, w_110⟩
theorem w_1942 : Cond.instanceMethod yX11_isGuess ∈ wAll := wIn 1942 (by decide +kernel) (by decide +kernel)
theorem w_1943 : Cond.code yX11_isGuess cX11_isGuess 6 (some .boolean) ∈ wAll := wIn 1943 (by decide +kernel) (by decide +kernel)
theorem dX11_numberOf_11 : decode cX11_numberOf 11 = .ok (.ifCond .eq 29, 3) := by decide +kernel
theorem dX11_numberOf_40 : decode cX11_numberOf 40 = .ok (.ldc_w 286, 3) := by decide +kernel
theorem w_1791 : Cond.constant "QuarterWalksModel" 286 (-1000000) ∈ wAll := wIn 1791 (by decide +kernel) (by decide +kernel)
theorem dX11_numberOf_43 : decode cX11_numberOf 43 = .ok (.ireturn, 1) := by decide +kernel
theorem dX11_failOf_0 : decode cX11_failOf 0 = .ok (.aload_n 0, 1) := by decide +kernel
theorem dX11_failOf_1 : decode cX11_failOf 1 = .ok (.iload_n 1, 1) := by decide +kernel
theorem dX11_failOf_2 : decode cX11_failOf 2 = .ok (.iload_n 2, 1) := by decide +kernel
theorem dX11_failOf_3 : decode cX11_failOf 3 = .ok (.iload_n 3, 1) := by decide +kernel
theorem dX11_failOf_4 : decode cX11_failOf 4 = .ok (.iload 4, 2) := by decide +kernel
theorem dX11_failOf_6 : decode cX11_failOf 6 = .ok (.iload 5, 2) := by decide +kernel
theorem dX11_failOf_8 : decode cX11_failOf 8 = .ok (.invokevirtual 396, 3) := by decide +kernel
theorem dX11_failOf_11 : decode cX11_failOf 11 = .ok (.ifCond .ne 7, 3) := by decide +kernel
theorem dX11_failOf_14 : decode cX11_failOf 14 = .ok (.ldc_w 286, 3) := by decide +kernel
theorem dX11_failOf_17 : decode cX11_failOf 17 = .ok (.ireturn, 1) := by decide +kernel
theorem dX11_drop_0 : decode cX11_drop 0 = .ok (.aload_n 0, 1) := by decide +kernel
theorem dX11_drop_1 : decode cX11_drop 1 = .ok (.iconst 0, 1) := by decide +kernel
theorem dX11_drop_2 : decode cX11_drop 2 = .ok (.putfield 75, 3) := by decide +kernel
theorem w_1433 : Cond.fieldLink "QuarterWalksModel" 75 "QuarterWalksModel" "thrown" "I" ∈ wAll := wIn 1433 (by decide +kernel) (by decide +kernel)
theorem flw_X11_75 : flw RX11 75 12 0 (.int) := ⟨RX11, TX11, 32, tyX11, rfl, inA_X11, by decide, w_1433, tyX11_ok, nmX11, by decide +kernel, Or.inl rfl⟩
theorem dX11_drop_5 : decode cX11_drop 5 = .ok (.aload_n 0, 1) := by decide +kernel
theorem dX11_drop_6 : decode cX11_drop 6 = .ok (.iload_n 1, 1) := by decide +kernel
theorem dX11_drop_7 : decode cX11_drop 7 = .ok (.invokevirtual 171, 3) := by decide +kernel
theorem dX11_drop_10 : decode cX11_drop 10 = .ok (.ifCond .ne 9, 3) := by decide +kernel
theorem dX11_drop_13 : decode cX11_drop 13 = .ok (.aload_n 0, 1) := by decide +kernel
theorem dX11_drop_14 : decode cX11_drop 14 = .ok (.iconst 0, 1) := by decide +kernel
theorem dX11_drop_15 : decode cX11_drop 15 = .ok (.invokevirtual 165, 3) := by decide +kernel
theorem w_1608 : Cond.methodLink "QuarterWalksModel" 165 yX11_refuse ∈ wAll := wIn 1608 (by decide +kernel) (by decide +kernel)
theorem w_48 : Cond.selects yX11_refuse.cls yX11_refuse yX11_refuse ∈ wAll := wIn 48 (by decide +kernel) (by decide +kernel)
theorem mk_X11_refuse : mk yX11_refuse 1 := ⟨by decide +kernel, w_110⟩
theorem w_1610 : Cond.instanceMethod yX11_refuse ∈ wAll := wIn 1610 (by decide +kernel) (by decide +kernel)
theorem w_1611 : Cond.code yX11_refuse cX11_refuse 2 (some .int) ∈ wAll := wIn 1611 (by decide +kernel) (by decide +kernel)
theorem dX11_drop_18 : decode cX11_drop 18 = .ok (.ireturn, 1) := by decide +kernel
theorem dX11_mirror_0 : decode cX11_mirror 0 = .ok (.aload_n 0, 1) := by decide +kernel
theorem dX11_mirror_1 : decode cX11_mirror 1 = .ok (.iconst 0, 1) := by decide +kernel
theorem dX11_mirror_2 : decode cX11_mirror 2 = .ok (.putfield 75, 3) := by decide +kernel
theorem dX11_mirror_5 : decode cX11_mirror 5 = .ok (.aload_n 0, 1) := by decide +kernel
theorem dX11_mirror_6 : decode cX11_mirror 6 = .ok (.iload_n 1, 1) := by decide +kernel
theorem dX11_mirror_7 : decode cX11_mirror 7 = .ok (.invokevirtual 171, 3) := by decide +kernel
theorem dX11_mirror_10 : decode cX11_mirror 10 = .ok (.ifCond .ne 9, 3) := by decide +kernel
theorem dX11_mirror_13 : decode cX11_mirror 13 = .ok (.aload_n 0, 1) := by decide +kernel
theorem dX11_mirror_14 : decode cX11_mirror 14 = .ok (.iconst 0, 1) := by decide +kernel
theorem dX11_mirror_15 : decode cX11_mirror 15 = .ok (.invokevirtual 165, 3) := by decide +kernel
theorem dX11_mirror_18 : decode cX11_mirror 18 = .ok (.ireturn, 1) := by decide +kernel
theorem dX11_turn_0 : decode cX11_turn 0 = .ok (.aload_n 0, 1) := by decide +kernel
theorem dX11_turn_1 : decode cX11_turn 1 = .ok (.iconst 0, 1) := by decide +kernel
theorem dX11_turn_2 : decode cX11_turn 2 = .ok (.putfield 75, 3) := by decide +kernel
theorem dX11_turn_5 : decode cX11_turn 5 = .ok (.aload_n 0, 1) := by decide +kernel
theorem dX11_turn_6 : decode cX11_turn 6 = .ok (.iload_n 1, 1) := by decide +kernel
theorem dX11_turn_7 : decode cX11_turn 7 = .ok (.invokevirtual 171, 3) := by decide +kernel
theorem dX11_turn_10 : decode cX11_turn 10 = .ok (.ifCond .ne 9, 3) := by decide +kernel
theorem dX11_turn_13 : decode cX11_turn 13 = .ok (.aload_n 0, 1) := by decide +kernel
theorem dX11_turn_14 : decode cX11_turn 14 = .ok (.iconst 0, 1) := by decide +kernel
theorem dX11_turn_15 : decode cX11_turn 15 = .ok (.invokevirtual 165, 3) := by decide +kernel
theorem dX11_turn_18 : decode cX11_turn 18 = .ok (.ireturn, 1) := by decide +kernel
theorem dX11_join_0 : decode cX11_join 0 = .ok (.aload_n 0, 1) := by decide +kernel
theorem dX11_join_1 : decode cX11_join 1 = .ok (.iconst 0, 1) := by decide +kernel
theorem dX11_join_2 : decode cX11_join 2 = .ok (.putfield 75, 3) := by decide +kernel
theorem dX11_join_5 : decode cX11_join 5 = .ok (.aload_n 0, 1) := by decide +kernel
theorem dX11_join_6 : decode cX11_join 6 = .ok (.iload_n 1, 1) := by decide +kernel
theorem dX11_join_7 : decode cX11_join 7 = .ok (.invokevirtual 171, 3) := by decide +kernel
theorem dX11_join_10 : decode cX11_join 10 = .ok (.ifCond .eq 11, 3) := by decide +kernel
theorem dX11_join_21 : decode cX11_join 21 = .ok (.aload_n 0, 1) := by decide +kernel
theorem dX11_join_22 : decode cX11_join 22 = .ok (.iconst 0, 1) := by decide +kernel
theorem dX11_join_23 : decode cX11_join 23 = .ok (.invokevirtual 165, 3) := by decide +kernel
theorem dX11_join_26 : decode cX11_join 26 = .ok (.ireturn, 1) := by decide +kernel
theorem dX11_scale_0 : decode cX11_scale 0 = .ok (.aload_n 0, 1) := by decide +kernel
theorem dX11_scale_1 : decode cX11_scale 1 = .ok (.iconst 0, 1) := by decide +kernel
theorem dX11_scale_2 : decode cX11_scale 2 = .ok (.putfield 75, 3) := by decide +kernel
theorem dX11_scale_5 : decode cX11_scale 5 = .ok (.aload_n 0, 1) := by decide +kernel
theorem dX11_scale_6 : decode cX11_scale 6 = .ok (.iload_n 1, 1) := by decide +kernel
theorem dX11_scale_7 : decode cX11_scale 7 = .ok (.invokevirtual 171, 3) := by decide +kernel
theorem dX11_scale_10 : decode cX11_scale 10 = .ok (.ifCond .ne 9, 3) := by decide +kernel
theorem dX11_scale_13 : decode cX11_scale 13 = .ok (.aload_n 0, 1) := by decide +kernel
theorem dX11_scale_14 : decode cX11_scale 14 = .ok (.iconst 0, 1) := by decide +kernel
theorem dX11_scale_15 : decode cX11_scale 15 = .ok (.invokevirtual 165, 3) := by decide +kernel
theorem dX11_scale_18 : decode cX11_scale 18 = .ok (.ireturn, 1) := by decide +kernel
theorem dX11_weigh_0 : decode cX11_weigh 0 = .ok (.aload_n 0, 1) := by decide +kernel
theorem dX11_weigh_1 : decode cX11_weigh 1 = .ok (.iconst 0, 1) := by decide +kernel
theorem dX11_weigh_2 : decode cX11_weigh 2 = .ok (.putfield 75, 3) := by decide +kernel
theorem dX11_weigh_5 : decode cX11_weigh 5 = .ok (.aload_n 0, 1) := by decide +kernel
theorem dX11_weigh_6 : decode cX11_weigh 6 = .ok (.iload_n 1, 1) := by decide +kernel
theorem dX11_weigh_7 : decode cX11_weigh 7 = .ok (.invokevirtual 171, 3) := by decide +kernel
theorem dX11_weigh_10 : decode cX11_weigh 10 = .ok (.ifCond .ne 9, 3) := by decide +kernel
theorem dX11_weigh_13 : decode cX11_weigh 13 = .ok (.aload_n 0, 1) := by decide +kernel
theorem dX11_weigh_14 : decode cX11_weigh 14 = .ok (.iconst 0, 1) := by decide +kernel
theorem dX11_weigh_15 : decode cX11_weigh 15 = .ok (.invokevirtual 165, 3) := by decide +kernel
theorem dX11_weigh_18 : decode cX11_weigh 18 = .ok (.ireturn, 1) := by decide +kernel
theorem dX11_start_0 : decode cX11_start 0 = .ok (.aload_n 0, 1) := by decide +kernel
theorem dX11_start_1 : decode cX11_start 1 = .ok (.iconst 0, 1) := by decide +kernel
theorem dX11_start_2 : decode cX11_start 2 = .ok (.putfield 75, 3) := by decide +kernel
theorem dX11_start_5 : decode cX11_start 5 = .ok (.aload_n 0, 1) := by decide +kernel
theorem dX11_start_6 : decode cX11_start 6 = .ok (.iload_n 1, 1) := by decide +kernel
theorem dX11_start_7 : decode cX11_start 7 = .ok (.invokevirtual 171, 3) := by decide +kernel
theorem dX11_start_10 : decode cX11_start 10 = .ok (.ifCond .ne 9, 3) := by decide +kernel
theorem dX11_start_13 : decode cX11_start 13 = .ok (.aload_n 0, 1) := by decide +kernel
theorem dX11_start_14 : decode cX11_start 14 = .ok (.iconst 0, 1) := by decide +kernel
theorem dX11_start_15 : decode cX11_start 15 = .ok (.invokevirtual 165, 3) := by decide +kernel
theorem dX11_start_18 : decode cX11_start 18 = .ok (.ireturn, 1) := by decide +kernel
theorem dX11_at_0 : decode cX11_at 0 = .ok (.aload_n 0, 1) := by decide +kernel
theorem dX11_at_1 : decode cX11_at 1 = .ok (.iconst 0, 1) := by decide +kernel
theorem dX11_at_2 : decode cX11_at 2 = .ok (.putfield 75, 3) := by decide +kernel
theorem dX11_at_5 : decode cX11_at 5 = .ok (.iload_n 1, 1) := by decide +kernel
theorem dX11_at_6 : decode cX11_at 6 = .ok (.i2l, 1) := by decide +kernel
theorem dX11_at_7 : decode cX11_at 7 = .ok (.lconst 0, 1) := by decide +kernel
theorem dX11_at_8 : decode cX11_at 8 = .ok (.ldc2_w 179, 3) := by decide +kernel
theorem w_1651 : Cond.constantLong "QuarterWalksModel" 179 2 ∈ wAll := wIn 1651 (by decide +kernel) (by decide +kernel)
theorem dX11_at_11 : decode cX11_at 11 = .ok (.invokestatic 158, 3) := by decide +kernel
theorem dX11_at_14 : decode cX11_at 14 = .ok (.ifCond .eq 28, 3) := by decide +kernel
theorem dX11_at_42 : decode cX11_at 42 = .ok (.iconst (-1), 1) := by decide +kernel
theorem dX11_at_43 : decode cX11_at 43 = .ok (.ireturn, 1) := by decide +kernel
theorem dX11_at_17 : decode cX11_at 17 = .ok (.aload_n 0, 1) := by decide +kernel
theorem dX11_at_18 : decode cX11_at 18 = .ok (.iload_n 2, 1) := by decide +kernel
theorem dX11_at_19 : decode cX11_at 19 = .ok (.invokevirtual 171, 3) := by decide +kernel
theorem dX11_at_22 : decode cX11_at 22 = .ok (.ifCond .eq 20, 3) := by decide +kernel
theorem dX11_series_0 : decode cX11_series 0 = .ok (.aload_n 0, 1) := by decide +kernel
theorem dX11_series_1 : decode cX11_series 1 = .ok (.iconst 0, 1) := by decide +kernel
theorem dX11_series_2 : decode cX11_series 2 = .ok (.putfield 75, 3) := by decide +kernel
theorem dX11_series_5 : decode cX11_series 5 = .ok (.aload_n 0, 1) := by decide +kernel
theorem dX11_series_6 : decode cX11_series 6 = .ok (.iload_n 1, 1) := by decide +kernel
theorem dX11_series_7 : decode cX11_series 7 = .ok (.invokevirtual 171, 3) := by decide +kernel
theorem dX11_series_10 : decode cX11_series 10 = .ok (.ifCond .eq 22, 3) := by decide +kernel
theorem dX11_series_32 : decode cX11_series 32 = .ok (.iconst (-1), 1) := by decide +kernel
theorem dX11_series_33 : decode cX11_series 33 = .ok (.ireturn, 1) := by decide +kernel
theorem dX11_exact_0 : decode cX11_exact 0 = .ok (.aload_n 0, 1) := by decide +kernel
theorem dX11_exact_1 : decode cX11_exact 1 = .ok (.iconst 0, 1) := by decide +kernel
theorem dX11_exact_2 : decode cX11_exact 2 = .ok (.putfield 75, 3) := by decide +kernel
theorem dX11_exact_5 : decode cX11_exact 5 = .ok (.aload_n 0, 1) := by decide +kernel
theorem dX11_exact_6 : decode cX11_exact 6 = .ok (.iload_n 1, 1) := by decide +kernel
theorem dX11_exact_7 : decode cX11_exact 7 = .ok (.invokevirtual 171, 3) := by decide +kernel
theorem dX11_exact_10 : decode cX11_exact 10 = .ok (.ifCond .eq 28, 3) := by decide +kernel
theorem dX11_exact_38 : decode cX11_exact 38 = .ok (.ldc2_w 270, 3) := by decide +kernel
theorem w_1752 : Cond.constantLong "QuarterWalksModel" 270 (-1) ∈ wAll := wIn 1752 (by decide +kernel) (by decide +kernel)
theorem dX11_exact_41 : decode cX11_exact 41 = .ok (.lreturn, 1) := by decide +kernel
theorem dX11_bridge_0 : decode cX11_bridge 0 = .ok (.aload_n 0, 1) := by decide +kernel
theorem dX11_bridge_1 : decode cX11_bridge 1 = .ok (.iconst 0, 1) := by decide +kernel
theorem dX11_bridge_2 : decode cX11_bridge 2 = .ok (.putfield 75, 3) := by decide +kernel
theorem dX11_bridge_5 : decode cX11_bridge 5 = .ok (.aload_n 0, 1) := by decide +kernel
theorem dX11_bridge_6 : decode cX11_bridge 6 = .ok (.iload_n 1, 1) := by decide +kernel
theorem dX11_bridge_7 : decode cX11_bridge 7 = .ok (.invokevirtual 171, 3) := by decide +kernel
theorem dX11_bridge_10 : decode cX11_bridge 10 = .ok (.ifCond .eq 19, 3) := by decide +kernel
theorem dX11_bridge_29 : decode cX11_bridge 29 = .ok (.iconst (-1), 1) := by decide +kernel
theorem dX11_bridge_30 : decode cX11_bridge 30 = .ok (.ireturn, 1) := by decide +kernel
theorem dX11_reflected_0 : decode cX11_reflected 0 = .ok (.aload_n 0, 1) := by decide +kernel
theorem dX11_reflected_1 : decode cX11_reflected 1 = .ok (.iconst 0, 1) := by decide +kernel
theorem dX11_reflected_2 : decode cX11_reflected 2 = .ok (.putfield 75, 3) := by decide +kernel
theorem dX11_reflected_5 : decode cX11_reflected 5 = .ok (.aload_n 0, 1) := by decide +kernel
theorem dX11_reflected_6 : decode cX11_reflected 6 = .ok (.iload_n 1, 1) := by decide +kernel
theorem dX11_reflected_7 : decode cX11_reflected 7 = .ok (.invokevirtual 171, 3) := by decide +kernel
theorem dX11_reflected_10 : decode cX11_reflected 10 = .ok (.ifCond .eq 43, 3) := by decide +kernel
theorem dX11_reflected_53 : decode cX11_reflected 53 = .ok (.ldc_w 286, 3) := by decide +kernel
theorem dX11_reflected_56 : decode cX11_reflected 56 = .ok (.ireturn, 1) := by decide +kernel
theorem dX11_rank_0 : decode cX11_rank 0 = .ok (.aload_n 0, 1) := by decide +kernel
theorem dX11_rank_1 : decode cX11_rank 1 = .ok (.iconst 0, 1) := by decide +kernel
theorem dX11_rank_2 : decode cX11_rank 2 = .ok (.putfield 75, 3) := by decide +kernel
theorem dX11_rank_5 : decode cX11_rank 5 = .ok (.aload_n 0, 1) := by decide +kernel
theorem dX11_rank_6 : decode cX11_rank 6 = .ok (.iload_n 1, 1) := by decide +kernel
theorem dX11_rank_7 : decode cX11_rank 7 = .ok (.invokevirtual 171, 3) := by decide +kernel
theorem dX11_rank_10 : decode cX11_rank 10 = .ok (.ifCond .eq 15, 3) := by decide +kernel
theorem dX11_rank_25 : decode cX11_rank 25 = .ok (.iconst (-1), 1) := by decide +kernel
theorem dX11_rank_26 : decode cX11_rank 26 = .ok (.ireturn, 1) := by decide +kernel
theorem dX11_ratio_0 : decode cX11_ratio 0 = .ok (.aload_n 0, 1) := by decide +kernel
theorem dX11_ratio_1 : decode cX11_ratio 1 = .ok (.iconst 0, 1) := by decide +kernel
theorem dX11_ratio_2 : decode cX11_ratio 2 = .ok (.putfield 75, 3) := by decide +kernel
theorem dX11_ratio_5 : decode cX11_ratio 5 = .ok (.aload_n 0, 1) := by decide +kernel
theorem dX11_ratio_6 : decode cX11_ratio 6 = .ok (.iload_n 1, 1) := by decide +kernel
theorem dX11_ratio_7 : decode cX11_ratio 7 = .ok (.invokevirtual 171, 3) := by decide +kernel
theorem dX11_ratio_10 : decode cX11_ratio 10 = .ok (.ifCond .eq 27, 3) := by decide +kernel
theorem dX11_ratio_37 : decode cX11_ratio 37 = .ok (.iconst (-1), 1) := by decide +kernel
theorem dX11_ratio_38 : decode cX11_ratio 38 = .ok (.ireturn, 1) := by decide +kernel
theorem dX11_hankel_0 : decode cX11_hankel 0 = .ok (.aload_n 0, 1) := by decide +kernel
theorem dX11_hankel_1 : decode cX11_hankel 1 = .ok (.iconst 0, 1) := by decide +kernel
theorem dX11_hankel_2 : decode cX11_hankel 2 = .ok (.putfield 75, 3) := by decide +kernel
theorem dX11_hankel_5 : decode cX11_hankel 5 = .ok (.aload_n 0, 1) := by decide +kernel
theorem dX11_hankel_6 : decode cX11_hankel 6 = .ok (.iload_n 1, 1) := by decide +kernel
theorem dX11_hankel_7 : decode cX11_hankel 7 = .ok (.invokevirtual 171, 3) := by decide +kernel
theorem dX11_hankel_10 : decode cX11_hankel 10 = .ok (.ifCond .eq 27, 3) := by decide +kernel
theorem dX11_hankel_37 : decode cX11_hankel 37 = .ok (.iconst (-1), 1) := by decide +kernel
theorem dX11_hankel_38 : decode cX11_hankel 38 = .ok (.ireturn, 1) := by decide +kernel
theorem dX11_convolved_0 : decode cX11_convolved 0 = .ok (.aload_n 0, 1) := by decide +kernel
theorem dX11_convolved_1 : decode cX11_convolved 1 = .ok (.iconst 0, 1) := by decide +kernel
theorem dX11_convolved_2 : decode cX11_convolved 2 = .ok (.putfield 75, 3) := by decide +kernel
theorem dX11_convolved_5 : decode cX11_convolved 5 = .ok (.aload_n 0, 1) := by decide +kernel
theorem dX11_convolved_6 : decode cX11_convolved 6 = .ok (.iload_n 1, 1) := by decide +kernel
theorem dX11_convolved_7 : decode cX11_convolved 7 = .ok (.invokevirtual 171, 3) := by decide +kernel
theorem dX11_convolved_10 : decode cX11_convolved 10 = .ok (.ifCond .eq 44, 3) := by decide +kernel
theorem dX11_convolved_54 : decode cX11_convolved 54 = .ok (.iconst (-1), 1) := by decide +kernel
theorem dX11_convolved_55 : decode cX11_convolved 55 = .ok (.ireturn, 1) := by decide +kernel
theorem dX11_out_0 : decode cX11_out 0 = .ok (.aload_n 0, 1) := by decide +kernel
theorem dX11_out_1 : decode cX11_out 1 = .ok (.iconst 0, 1) := by decide +kernel
theorem dX11_out_2 : decode cX11_out 2 = .ok (.putfield 75, 3) := by decide +kernel
theorem dX11_out_5 : decode cX11_out 5 = .ok (.aload_n 0, 1) := by decide +kernel
theorem dX11_out_6 : decode cX11_out 6 = .ok (.iload_n 1, 1) := by decide +kernel
theorem dX11_out_7 : decode cX11_out 7 = .ok (.invokevirtual 171, 3) := by decide +kernel
theorem dX11_out_10 : decode cX11_out 10 = .ok (.ifCond .eq 10, 3) := by decide +kernel
theorem dX11_out_20 : decode cX11_out 20 = .ok (.iconst (-1), 1) := by decide +kernel
theorem dX11_out_21 : decode cX11_out 21 = .ok (.ireturn, 1) := by decide +kernel
theorem dX11_arches_0 : decode cX11_arches 0 = .ok (.aload_n 0, 1) := by decide +kernel
theorem dX11_arches_1 : decode cX11_arches 1 = .ok (.iconst 0, 1) := by decide +kernel
theorem dX11_arches_2 : decode cX11_arches 2 = .ok (.putfield 75, 3) := by decide +kernel
theorem dX11_arches_5 : decode cX11_arches 5 = .ok (.aload_n 0, 1) := by decide +kernel
theorem dX11_arches_6 : decode cX11_arches 6 = .ok (.iload_n 1, 1) := by decide +kernel
theorem dX11_arches_7 : decode cX11_arches 7 = .ok (.invokevirtual 171, 3) := by decide +kernel
theorem dX11_arches_10 : decode cX11_arches 10 = .ok (.ifCond .eq 15, 3) := by decide +kernel
theorem dX11_arches_25 : decode cX11_arches 25 = .ok (.iconst (-1), 1) := by decide +kernel
theorem dX11_arches_26 : decode cX11_arches 26 = .ok (.ireturn, 1) := by decide +kernel
theorem dX11_value_0 : decode cX11_value 0 = .ok (.aload_n 0, 1) := by decide +kernel
theorem dX11_value_1 : decode cX11_value 1 = .ok (.iconst 0, 1) := by decide +kernel
theorem dX11_value_2 : decode cX11_value 2 = .ok (.putfield 75, 3) := by decide +kernel
theorem dX11_value_5 : decode cX11_value 5 = .ok (.aload_n 0, 1) := by decide +kernel
theorem dX11_value_6 : decode cX11_value 6 = .ok (.iload_n 1, 1) := by decide +kernel
theorem dX11_value_7 : decode cX11_value 7 = .ok (.invokevirtual 171, 3) := by decide +kernel
theorem dX11_value_10 : decode cX11_value 10 = .ok (.ifCond .eq 35, 3) := by decide +kernel
theorem dX11_value_45 : decode cX11_value 45 = .ok (.iconst (-1), 1) := by decide +kernel
theorem dX11_value_46 : decode cX11_value 46 = .ok (.ireturn, 1) := by decide +kernel
theorem dX11_walk_0 : decode cX11_walk 0 = .ok (.aload_n 0, 1) := by decide +kernel
theorem dX11_walk_1 : decode cX11_walk 1 = .ok (.iconst 0, 1) := by decide +kernel
theorem dX11_walk_2 : decode cX11_walk 2 = .ok (.putfield 75, 3) := by decide +kernel
theorem dX11_walk_5 : decode cX11_walk 5 = .ok (.aload_n 0, 1) := by decide +kernel
theorem dX11_walk_6 : decode cX11_walk 6 = .ok (.iload_n 1, 1) := by decide +kernel
theorem dX11_walk_7 : decode cX11_walk 7 = .ok (.invokevirtual 171, 3) := by decide +kernel
theorem dX11_walk_10 : decode cX11_walk 10 = .ok (.ifCond .eq 25, 3) := by decide +kernel
theorem dX11_walk_35 : decode cX11_walk 35 = .ok (.ldc_w 286, 3) := by decide +kernel
theorem dX11_walk_38 : decode cX11_walk 38 = .ok (.ireturn, 1) := by decide +kernel
theorem dX11_drawn_0 : decode cX11_drawn 0 = .ok (.aload_n 0, 1) := by decide +kernel
theorem dX11_drawn_1 : decode cX11_drawn 1 = .ok (.iconst 0, 1) := by decide +kernel
theorem dX11_drawn_2 : decode cX11_drawn 2 = .ok (.putfield 75, 3) := by decide +kernel
theorem dX11_drawn_5 : decode cX11_drawn 5 = .ok (.aload_n 0, 1) := by decide +kernel
theorem dX11_drawn_6 : decode cX11_drawn 6 = .ok (.iload_n 1, 1) := by decide +kernel
theorem dX11_drawn_7 : decode cX11_drawn 7 = .ok (.invokevirtual 171, 3) := by decide +kernel
theorem dX11_drawn_10 : decode cX11_drawn 10 = .ok (.ifCond .eq 33, 3) := by decide +kernel
theorem dX11_drawn_43 : decode cX11_drawn 43 = .ok (.ldc_w 286, 3) := by decide +kernel
theorem dX11_drawn_46 : decode cX11_drawn 46 = .ok (.ireturn, 1) := by decide +kernel
theorem dX11_peak_0 : decode cX11_peak 0 = .ok (.aload_n 0, 1) := by decide +kernel
theorem dX11_peak_1 : decode cX11_peak 1 = .ok (.iconst 0, 1) := by decide +kernel
theorem dX11_peak_2 : decode cX11_peak 2 = .ok (.putfield 75, 3) := by decide +kernel
theorem dX11_peak_5 : decode cX11_peak 5 = .ok (.aload_n 0, 1) := by decide +kernel
theorem dX11_peak_6 : decode cX11_peak 6 = .ok (.iload_n 1, 1) := by decide +kernel
theorem dX11_peak_7 : decode cX11_peak 7 = .ok (.invokevirtual 171, 3) := by decide +kernel
theorem dX11_peak_10 : decode cX11_peak 10 = .ok (.ifCond .eq 22, 3) := by decide +kernel
theorem dX11_peak_32 : decode cX11_peak 32 = .ok (.ldc_w 286, 3) := by decide +kernel
theorem dX11_peak_35 : decode cX11_peak 35 = .ok (.ireturn, 1) := by decide +kernel
theorem dX11_points_0 : decode cX11_points 0 = .ok (.aload_n 0, 1) := by decide +kernel
theorem dX11_points_1 : decode cX11_points 1 = .ok (.iconst 0, 1) := by decide +kernel
theorem dX11_points_2 : decode cX11_points 2 = .ok (.putfield 75, 3) := by decide +kernel
theorem dX11_points_5 : decode cX11_points 5 = .ok (.aload_n 0, 1) := by decide +kernel
theorem dX11_points_6 : decode cX11_points 6 = .ok (.iload_n 1, 1) := by decide +kernel
theorem dX11_points_7 : decode cX11_points 7 = .ok (.invokevirtual 171, 3) := by decide +kernel
theorem dX11_points_10 : decode cX11_points 10 = .ok (.ifCond .eq 10, 3) := by decide +kernel
theorem dX11_points_20 : decode cX11_points 20 = .ok (.iconst (-1), 1) := by decide +kernel
theorem dX11_points_21 : decode cX11_points 21 = .ok (.ireturn, 1) := by decide +kernel
theorem dX11_fewest_0 : decode cX11_fewest 0 = .ok (.aload_n 0, 1) := by decide +kernel
theorem dX11_fewest_1 : decode cX11_fewest 1 = .ok (.iconst 0, 1) := by decide +kernel
theorem dX11_fewest_2 : decode cX11_fewest 2 = .ok (.putfield 75, 3) := by decide +kernel
theorem dX11_fewest_5 : decode cX11_fewest 5 = .ok (.aload_n 0, 1) := by decide +kernel
theorem dX11_fewest_6 : decode cX11_fewest 6 = .ok (.iload_n 1, 1) := by decide +kernel
theorem dX11_fewest_7 : decode cX11_fewest 7 = .ok (.invokevirtual 171, 3) := by decide +kernel
theorem dX11_fewest_10 : decode cX11_fewest 10 = .ok (.ifCond .eq 11, 3) := by decide +kernel
theorem dX11_fewest_21 : decode cX11_fewest 21 = .ok (.iconst (-1), 1) := by decide +kernel
theorem dX11_fewest_22 : decode cX11_fewest 22 = .ok (.ireturn, 1) := by decide +kernel
theorem dX11_period_0 : decode cX11_period 0 = .ok (.aload_n 0, 1) := by decide +kernel
theorem dX11_period_1 : decode cX11_period 1 = .ok (.iconst 0, 1) := by decide +kernel
theorem dX11_period_2 : decode cX11_period 2 = .ok (.putfield 75, 3) := by decide +kernel
theorem dX11_period_5 : decode cX11_period 5 = .ok (.aload_n 0, 1) := by decide +kernel
theorem dX11_period_6 : decode cX11_period 6 = .ok (.iload_n 1, 1) := by decide +kernel
theorem dX11_period_7 : decode cX11_period 7 = .ok (.invokevirtual 171, 3) := by decide +kernel
theorem dX11_period_10 : decode cX11_period 10 = .ok (.ifCond .ne 5, 3) := by decide +kernel
theorem dX11_period_13 : decode cX11_period 13 = .ok (.iconst (-1), 1) := by decide +kernel
theorem dX11_period_14 : decode cX11_period 14 = .ok (.ireturn, 1) := by decide +kernel
theorem dX11_meet_0 : decode cX11_meet 0 = .ok (.aload_n 0, 1) := by decide +kernel
theorem dX11_meet_1 : decode cX11_meet 1 = .ok (.iconst 0, 1) := by decide +kernel
theorem dX11_meet_2 : decode cX11_meet 2 = .ok (.putfield 75, 3) := by decide +kernel
theorem dX11_meet_5 : decode cX11_meet 5 = .ok (.aload_n 0, 1) := by decide +kernel
theorem dX11_meet_6 : decode cX11_meet 6 = .ok (.iload_n 1, 1) := by decide +kernel
theorem dX11_meet_7 : decode cX11_meet 7 = .ok (.invokevirtual 171, 3) := by decide +kernel
theorem dX11_meet_10 : decode cX11_meet 10 = .ok (.ifCond .eq 18, 3) := by decide +kernel
theorem dX11_meet_28 : decode cX11_meet 28 = .ok (.iconst (-1), 1) := by decide +kernel
theorem dX11_meet_29 : decode cX11_meet 29 = .ok (.ireturn, 1) := by decide +kernel
theorem dX11_kernel_0 : decode cX11_kernel 0 = .ok (.aload_n 0, 1) := by decide +kernel
theorem dX11_kernel_1 : decode cX11_kernel 1 = .ok (.iconst 0, 1) := by decide +kernel
theorem dX11_kernel_2 : decode cX11_kernel 2 = .ok (.putfield 75, 3) := by decide +kernel
theorem dX11_kernel_5 : decode cX11_kernel 5 = .ok (.aload_n 0, 1) := by decide +kernel
theorem dX11_kernel_6 : decode cX11_kernel 6 = .ok (.iload_n 1, 1) := by decide +kernel
theorem dX11_kernel_7 : decode cX11_kernel 7 = .ok (.invokevirtual 171, 3) := by decide +kernel
theorem dX11_kernel_10 : decode cX11_kernel 10 = .ok (.ifCond .eq 11, 3) := by decide +kernel
theorem dX11_kernel_21 : decode cX11_kernel 21 = .ok (.iconst (-1), 1) := by decide +kernel
theorem dX11_kernel_22 : decode cX11_kernel 22 = .ok (.ireturn, 1) := by decide +kernel
theorem dX11_turned_0 : decode cX11_turned 0 = .ok (.aload_n 0, 1) := by decide +kernel
theorem dX11_turned_1 : decode cX11_turned 1 = .ok (.iconst 0, 1) := by decide +kernel
theorem dX11_turned_2 : decode cX11_turned 2 = .ok (.putfield 75, 3) := by decide +kernel
theorem dX11_turned_5 : decode cX11_turned 5 = .ok (.aload_n 0, 1) := by decide +kernel
theorem dX11_turned_6 : decode cX11_turned 6 = .ok (.iload_n 1, 1) := by decide +kernel
theorem dX11_turned_7 : decode cX11_turned 7 = .ok (.invokevirtual 171, 3) := by decide +kernel
theorem dX11_turned_10 : decode cX11_turned 10 = .ok (.ifCond .eq 34, 3) := by decide +kernel
theorem dX11_turned_44 : decode cX11_turned 44 = .ok (.iconst (-1), 1) := by decide +kernel
theorem dX11_turned_45 : decode cX11_turned 45 = .ok (.ireturn, 1) := by decide +kernel
theorem dX11_orbit_0 : decode cX11_orbit 0 = .ok (.aload_n 0, 1) := by decide +kernel
theorem dX11_orbit_1 : decode cX11_orbit 1 = .ok (.iconst 0, 1) := by decide +kernel
theorem dX11_orbit_2 : decode cX11_orbit 2 = .ok (.putfield 75, 3) := by decide +kernel
theorem dX11_orbit_5 : decode cX11_orbit 5 = .ok (.aload_n 0, 1) := by decide +kernel
theorem dX11_orbit_6 : decode cX11_orbit 6 = .ok (.iload_n 1, 1) := by decide +kernel
theorem dX11_orbit_7 : decode cX11_orbit 7 = .ok (.invokevirtual 171, 3) := by decide +kernel
theorem dX11_orbit_10 : decode cX11_orbit 10 = .ok (.ifCond .eq 34, 3) := by decide +kernel
theorem dX11_orbit_44 : decode cX11_orbit 44 = .ok (.bipush (-2), 2) := by decide +kernel
theorem dX11_orbit_46 : decode cX11_orbit 46 = .ok (.ireturn, 1) := by decide +kernel
theorem dX11_group_0 : decode cX11_group 0 = .ok (.aload_n 0, 1) := by decide +kernel
theorem dX11_group_1 : decode cX11_group 1 = .ok (.iconst 0, 1) := by decide +kernel
theorem dX11_group_2 : decode cX11_group 2 = .ok (.putfield 75, 3) := by decide +kernel
theorem dX11_group_5 : decode cX11_group 5 = .ok (.aload_n 0, 1) := by decide +kernel
theorem dX11_group_6 : decode cX11_group 6 = .ok (.iload_n 1, 1) := by decide +kernel
theorem dX11_group_7 : decode cX11_group 7 = .ok (.invokevirtual 171, 3) := by decide +kernel
theorem dX11_group_10 : decode cX11_group 10 = .ok (.ifCond .eq 11, 3) := by decide +kernel
theorem dX11_group_21 : decode cX11_group 21 = .ok (.bipush (-2), 2) := by decide +kernel
theorem dX11_group_23 : decode cX11_group 23 = .ok (.ireturn, 1) := by decide +kernel
theorem dX11_sum_0 : decode cX11_sum 0 = .ok (.aload_n 0, 1) := by decide +kernel
theorem dX11_sum_1 : decode cX11_sum 1 = .ok (.iconst 0, 1) := by decide +kernel
theorem dX11_sum_2 : decode cX11_sum 2 = .ok (.putfield 75, 3) := by decide +kernel
theorem dX11_sum_5 : decode cX11_sum 5 = .ok (.aload_n 0, 1) := by decide +kernel
theorem dX11_sum_6 : decode cX11_sum 6 = .ok (.iload_n 1, 1) := by decide +kernel
theorem dX11_sum_7 : decode cX11_sum 7 = .ok (.invokevirtual 171, 3) := by decide +kernel
theorem dX11_sum_10 : decode cX11_sum 10 = .ok (.ifCond .eq 11, 3) := by decide +kernel
theorem dX11_sum_21 : decode cX11_sum 21 = .ok (.bipush (-2), 2) := by decide +kernel
theorem dX11_sum_23 : decode cX11_sum 23 = .ok (.ireturn, 1) := by decide +kernel
theorem dX11_noUse_0 : decode cX11_noUse 0 = .ok (.aload_n 0, 1) := by decide +kernel
theorem dX11_noUse_1 : decode cX11_noUse 1 = .ok (.iconst 0, 1) := by decide +kernel
theorem dX11_noUse_2 : decode cX11_noUse 2 = .ok (.putfield 75, 3) := by decide +kernel
theorem dX11_noUse_5 : decode cX11_noUse 5 = .ok (.aload_n 0, 1) := by decide +kernel
theorem dX11_noUse_6 : decode cX11_noUse 6 = .ok (.iload_n 1, 1) := by decide +kernel
theorem dX11_noUse_7 : decode cX11_noUse 7 = .ok (.invokevirtual 171, 3) := by decide +kernel
theorem dX11_noUse_10 : decode cX11_noUse 10 = .ok (.ifCond .ne 5, 3) := by decide +kernel
theorem dX11_noUse_13 : decode cX11_noUse 13 = .ok (.iconst (-1), 1) := by decide +kernel
theorem dX11_noUse_14 : decode cX11_noUse 14 = .ok (.ireturn, 1) := by decide +kernel
theorem dX11_enough_0 : decode cX11_enough 0 = .ok (.aload_n 0, 1) := by decide +kernel
theorem dX11_enough_1 : decode cX11_enough 1 = .ok (.iconst 0, 1) := by decide +kernel
theorem dX11_enough_2 : decode cX11_enough 2 = .ok (.putfield 75, 3) := by decide +kernel
theorem dX11_enough_5 : decode cX11_enough 5 = .ok (.aload_n 0, 1) := by decide +kernel
theorem dX11_enough_6 : decode cX11_enough 6 = .ok (.iload_n 1, 1) := by decide +kernel
theorem dX11_enough_7 : decode cX11_enough 7 = .ok (.invokevirtual 171, 3) := by decide +kernel
theorem dX11_enough_10 : decode cX11_enough 10 = .ok (.ifCond .eq 35, 3) := by decide +kernel
theorem dX11_enough_45 : decode cX11_enough 45 = .ok (.iconst (-1), 1) := by decide +kernel
theorem dX11_enough_46 : decode cX11_enough 46 = .ok (.ireturn, 1) := by decide +kernel
theorem dX11_alike_0 : decode cX11_alike 0 = .ok (.aload_n 0, 1) := by decide +kernel
theorem dX11_alike_1 : decode cX11_alike 1 = .ok (.iconst 0, 1) := by decide +kernel
theorem dX11_alike_2 : decode cX11_alike 2 = .ok (.putfield 75, 3) := by decide +kernel
theorem dX11_alike_5 : decode cX11_alike 5 = .ok (.aload_n 0, 1) := by decide +kernel
theorem dX11_alike_6 : decode cX11_alike 6 = .ok (.iload_n 1, 1) := by decide +kernel
theorem dX11_alike_7 : decode cX11_alike 7 = .ok (.invokevirtual 171, 3) := by decide +kernel
theorem dX11_alike_10 : decode cX11_alike 10 = .ok (.ifCond .ne 5, 3) := by decide +kernel
theorem dX11_alike_13 : decode cX11_alike 13 = .ok (.iconst (-1), 1) := by decide +kernel
theorem dX11_alike_14 : decode cX11_alike 14 = .ok (.ireturn, 1) := by decide +kernel
theorem dX11_recurrence_0 : decode cX11_recurrence 0 = .ok (.aload_n 0, 1) := by decide +kernel
theorem dX11_recurrence_1 : decode cX11_recurrence 1 = .ok (.iconst 0, 1) := by decide +kernel
theorem dX11_recurrence_2 : decode cX11_recurrence 2 = .ok (.putfield 75, 3) := by decide +kernel
theorem dX11_recurrence_5 : decode cX11_recurrence 5 = .ok (.aload_n 0, 1) := by decide +kernel
theorem dX11_recurrence_6 : decode cX11_recurrence 6 = .ok (.iload_n 1, 1) := by decide +kernel
theorem dX11_recurrence_7 : decode cX11_recurrence 7 = .ok (.iload_n 2, 1) := by decide +kernel
theorem dX11_recurrence_8 : decode cX11_recurrence 8 = .ok (.iconst 0, 1) := by decide +kernel
theorem dX11_recurrence_9 : decode cX11_recurrence 9 = .ok (.iload_n 3, 1) := by decide +kernel
theorem dX11_recurrence_10 : decode cX11_recurrence 10 = .ok (.iload 4, 2) := by decide +kernel
theorem dX11_recurrence_12 : decode cX11_recurrence 12 = .ok (.iload 5, 2) := by decide +kernel
theorem dX11_recurrence_14 : decode cX11_recurrence 14 = .ok (.iload 6, 2) := by decide +kernel
theorem dX11_recurrence_16 : decode cX11_recurrence 16 = .ok (.invokevirtual 409, 3) := by decide +kernel
theorem w_1936 : Cond.methodLink "QuarterWalksModel" 409 yX11_numberOf ∈ wAll := wIn 1936 (by decide +kernel) (by decide +kernel)
theorem w_77 : Cond.selects yX11_numberOf.cls yX11_numberOf yX11_numberOf ∈ wAll := wIn 77 (by decide +kernel) (by decide +kernel)
theorem mk_X11_numberOf : mk yX11_numberOf 7 := ⟨by decide +kernel, w_110⟩
theorem w_1938 : Cond.instanceMethod yX11_numberOf ∈ wAll := wIn 1938 (by decide +kernel) (by decide +kernel)
theorem w_1939 : Cond.code yX11_numberOf cX11_numberOf 8 (some .int) ∈ wAll := wIn 1939 (by decide +kernel) (by decide +kernel)
theorem dX11_recurrence_19 : decode cX11_recurrence 19 = .ok (.ireturn, 1) := by decide +kernel
theorem dX11_fails__0 : decode cX11_fails_ 0 = .ok (.aload_n 0, 1) := by decide +kernel
theorem dX11_fails__1 : decode cX11_fails_ 1 = .ok (.iconst 0, 1) := by decide +kernel
theorem dX11_fails__2 : decode cX11_fails_ 2 = .ok (.putfield 75, 3) := by decide +kernel
theorem dX11_fails__5 : decode cX11_fails_ 5 = .ok (.aload_n 0, 1) := by decide +kernel
theorem dX11_fails__6 : decode cX11_fails_ 6 = .ok (.iload_n 1, 1) := by decide +kernel
theorem dX11_fails__7 : decode cX11_fails_ 7 = .ok (.iload_n 2, 1) := by decide +kernel
theorem dX11_fails__8 : decode cX11_fails_ 8 = .ok (.iconst 0, 1) := by decide +kernel
theorem dX11_fails__9 : decode cX11_fails_ 9 = .ok (.iload_n 3, 1) := by decide +kernel
theorem dX11_fails__10 : decode cX11_fails_ 10 = .ok (.iload 4, 2) := by decide +kernel
theorem dX11_fails__12 : decode cX11_fails_ 12 = .ok (.invokevirtual 413, 3) := by decide +kernel
theorem w_1981 : Cond.methodLink "QuarterWalksModel" 413 yX11_failOf ∈ wAll := wIn 1981 (by decide +kernel) (by decide +kernel)
theorem w_86 : Cond.selects yX11_failOf.cls yX11_failOf yX11_failOf ∈ wAll := wIn 86 (by decide +kernel) (by decide +kernel)
theorem mk_X11_failOf : mk yX11_failOf 5 := ⟨by decide +kernel, w_110⟩
theorem w_1983 : Cond.instanceMethod yX11_failOf ∈ wAll := wIn 1983 (by decide +kernel) (by decide +kernel)
theorem w_1984 : Cond.code yX11_failOf cX11_failOf 6 (some .int) ∈ wAll := wIn 1984 (by decide +kernel) (by decide +kernel)
theorem dX11_fails__15 : decode cX11_fails_ 15 = .ok (.ireturn, 1) := by decide +kernel
theorem dX11_equation_0 : decode cX11_equation 0 = .ok (.aload_n 0, 1) := by decide +kernel
theorem dX11_equation_1 : decode cX11_equation 1 = .ok (.iconst 0, 1) := by decide +kernel
theorem dX11_equation_2 : decode cX11_equation 2 = .ok (.putfield 75, 3) := by decide +kernel
theorem dX11_equation_5 : decode cX11_equation 5 = .ok (.aload_n 0, 1) := by decide +kernel
theorem dX11_equation_6 : decode cX11_equation 6 = .ok (.iload_n 1, 1) := by decide +kernel
theorem dX11_equation_7 : decode cX11_equation 7 = .ok (.iload_n 2, 1) := by decide +kernel
theorem dX11_equation_8 : decode cX11_equation 8 = .ok (.iconst 1, 1) := by decide +kernel
theorem dX11_equation_9 : decode cX11_equation 9 = .ok (.iload_n 3, 1) := by decide +kernel
theorem dX11_equation_10 : decode cX11_equation 10 = .ok (.iload 4, 2) := by decide +kernel
theorem dX11_equation_12 : decode cX11_equation 12 = .ok (.iload 5, 2) := by decide +kernel
theorem dX11_equation_14 : decode cX11_equation 14 = .ok (.iload 6, 2) := by decide +kernel
theorem dX11_equation_16 : decode cX11_equation 16 = .ok (.invokevirtual 409, 3) := by decide +kernel
theorem dX11_equation_19 : decode cX11_equation 19 = .ok (.ireturn, 1) := by decide +kernel
theorem dX11_breaks_0 : decode cX11_breaks 0 = .ok (.aload_n 0, 1) := by decide +kernel
theorem dX11_breaks_1 : decode cX11_breaks 1 = .ok (.iconst 0, 1) := by decide +kernel
theorem dX11_breaks_2 : decode cX11_breaks 2 = .ok (.putfield 75, 3) := by decide +kernel
theorem dX11_breaks_5 : decode cX11_breaks 5 = .ok (.aload_n 0, 1) := by decide +kernel
theorem dX11_breaks_6 : decode cX11_breaks 6 = .ok (.iload_n 1, 1) := by decide +kernel
theorem dX11_breaks_7 : decode cX11_breaks 7 = .ok (.iload_n 2, 1) := by decide +kernel
theorem dX11_breaks_8 : decode cX11_breaks 8 = .ok (.iconst 1, 1) := by decide +kernel
theorem dX11_breaks_9 : decode cX11_breaks 9 = .ok (.iload_n 3, 1) := by decide +kernel
theorem dX11_breaks_10 : decode cX11_breaks 10 = .ok (.iload 4, 2) := by decide +kernel
theorem dX11_breaks_12 : decode cX11_breaks 12 = .ok (.invokevirtual 413, 3) := by decide +kernel
theorem dX11_breaks_15 : decode cX11_breaks 15 = .ok (.ireturn, 1) := by decide +kernel
theorem dX11_least_0 : decode cX11_least 0 = .ok (.aload_n 0, 1) := by decide +kernel
theorem dX11_least_1 : decode cX11_least 1 = .ok (.iconst 0, 1) := by decide +kernel
theorem dX11_least_2 : decode cX11_least 2 = .ok (.putfield 75, 3) := by decide +kernel
theorem dX11_least_5 : decode cX11_least 5 = .ok (.aload_n 0, 1) := by decide +kernel
theorem dX11_least_6 : decode cX11_least 6 = .ok (.iload_n 1, 1) := by decide +kernel
theorem dX11_least_7 : decode cX11_least 7 = .ok (.invokevirtual 171, 3) := by decide +kernel
theorem dX11_least_10 : decode cX11_least 10 = .ok (.ifCond .eq 25, 3) := by decide +kernel
theorem dX11_least_35 : decode cX11_least 35 = .ok (.ldc_w 286, 3) := by decide +kernel
theorem dX11_least_38 : decode cX11_least 38 = .ok (.ireturn, 1) := by decide +kernel
theorem dX11_written_0 : decode cX11_written 0 = .ok (.aload_n 0, 1) := by decide +kernel
theorem dX11_written_1 : decode cX11_written 1 = .ok (.iconst 0, 1) := by decide +kernel
theorem dX11_written_2 : decode cX11_written 2 = .ok (.putfield 75, 3) := by decide +kernel
theorem dX11_written_5 : decode cX11_written 5 = .ok (.aload_n 0, 1) := by decide +kernel
theorem dX11_written_6 : decode cX11_written 6 = .ok (.iload_n 1, 1) := by decide +kernel
theorem dX11_written_7 : decode cX11_written 7 = .ok (.invokevirtual 171, 3) := by decide +kernel
theorem dX11_written_10 : decode cX11_written 10 = .ok (.ifCond .ne 5, 3) := by decide +kernel
theorem dX11_written_13 : decode cX11_written 13 = .ok (.iconst (-1), 1) := by decide +kernel
theorem dX11_written_14 : decode cX11_written 14 = .ok (.ireturn, 1) := by decide +kernel
theorem dJ0_coder_7d493_0 : decode cJ0_coder_7d493 0 = .ok (.getstatic 38, 3) := by decide +kernel
theorem w_480 : Cond.fieldLink "java/lang/String" 38 "java/lang/String" "COMPACT_STRINGS" "Z" ∈ wAll := wIn 480 (by decide +kernel) (by decide +kernel)
theorem dJ0_coder_7d493_3 : decode cJ0_coder_7d493 3 = .ok (.ifCond .eq 10, 3) := by decide +kernel
theorem dJ0_coder_7d493_6 : decode cJ0_coder_7d493 6 = .ok (.aload_n 0, 1) := by decide +kernel
theorem dJ0_coder_7d493_7 : decode cJ0_coder_7d493 7 = .ok (.getfield 15, 3) := by decide +kernel
theorem w_2092 : Cond.fieldLink "java/lang/String" 15 "java/lang/String" "coder" "B" ∈ wAll := wIn 2092 (by decide +kernel) (by decide +kernel)
theorem dJ0_coder_7d493_10 : decode cJ0_coder_7d493 10 = .ok (.goto 4, 3) := by decide +kernel
theorem dJ0_coder_7d493_14 : decode cJ0_coder_7d493 14 = .ok (.ireturn, 1) := by decide +kernel
theorem dJ0_length_8abf5_0 : decode cJ0_length_8abf5 0 = .ok (.aload_n 0, 1) := by decide +kernel
theorem dJ0_length_8abf5_1 : decode cJ0_length_8abf5 1 = .ok (.getfield 9, 3) := by decide +kernel
theorem w_2093 : Cond.fieldLink "java/lang/String" 9 "java/lang/String" "value" "[B" ∈ wAll := wIn 2093 (by decide +kernel) (by decide +kernel)
theorem dJ0_length_8abf5_4 : decode cJ0_length_8abf5 4 = .ok (.arraylength, 1) := by decide +kernel
theorem dJ0_length_8abf5_5 : decode cJ0_length_8abf5 5 = .ok (.aload_n 0, 1) := by decide +kernel
theorem dJ0_length_8abf5_6 : decode cJ0_length_8abf5 6 = .ok (.invokevirtual 335, 3) := by decide +kernel
theorem w_1255 : Cond.methodLink "java/lang/String" 335 yJ0_coder_7d493 ∈ wAll := wIn 1255 (by decide +kernel) (by decide +kernel)
theorem w_1257 : Cond.selects yJ0_coder_7d493.cls yJ0_coder_7d493 yJ0_coder_7d493 ∈ wAll := wIn 1257 (by decide +kernel) (by decide +kernel)
theorem w_108 : Cond.initialized "java/lang/String" ∈ wAll := wIn 108 (by decide +kernel) (by decide +kernel)
theorem mk_J0_coder_7d493 : mk yJ0_coder_7d493 0 := ⟨by decide +kernel, w_108⟩
theorem w_1256 : Cond.instanceMethod yJ0_coder_7d493 ∈ wAll := wIn 1256 (by decide +kernel) (by decide +kernel)
theorem w_1258 : Cond.code yJ0_coder_7d493 cJ0_coder_7d493 1 (some .byte) ∈ wAll := wIn 1258 (by decide +kernel) (by decide +kernel)
theorem dJ0_length_8abf5_9 : decode cJ0_length_8abf5 9 = .ok (.ishr, 1) := by decide +kernel
theorem dJ0_length_8abf5_10 : decode cJ0_length_8abf5 10 = .ok (.ireturn, 1) := by decide +kernel
theorem dX11_here_0 : decode cX11_here 0 = .ok (.aload_n 0, 1) := by decide +kernel
theorem dX11_here_1 : decode cX11_here 1 = .ok (.getfield 90, 3) := by decide +kernel
theorem w_1436 : Cond.fieldLink "QuarterWalksModel" 90 "QuarterWalksModel" "at" "I" ∈ wAll := wIn 1436 (by decide +kernel) (by decide +kernel)
theorem fl_X11_90 : fl RX11 90 12 3 := ⟨RX11, TX11, 32, rfl, inA_X11, by decide, w_1436⟩
theorem dX11_here_4 : decode cX11_here 4 = .ok (.aload_n 0, 1) := by decide +kernel
theorem dX11_here_5 : decode cX11_here 5 = .ok (.getfield 79, 3) := by decide +kernel
theorem w_1435 : Cond.fieldLink "QuarterWalksModel" 79 "QuarterWalksModel" "length" "I" ∈ wAll := wIn 1435 (by decide +kernel) (by decide +kernel)
theorem fl_X11_79 : fl RX11 79 12 2 := ⟨RX11, TX11, 32, rfl, inA_X11, by decide, w_1435⟩
theorem dX11_here_8 : decode cX11_here 8 = .ok (.if_icmp .ge 19, 3) := by decide +kernel
theorem dX11_here_27 : decode cX11_here 27 = .ok (.iconst (-1), 1) := by decide +kernel
theorem dX11_here_28 : decode cX11_here 28 = .ok (.ireturn, 1) := by decide +kernel
theorem dX11_look_0 : decode cX11_look 0 = .ok (.aload_n 0, 1) := by decide +kernel
theorem dX11_look_1 : decode cX11_look 1 = .ok (.invokevirtual 93, 3) := by decide +kernel
theorem w_1565 : Cond.methodLink "QuarterWalksModel" 93 yX11_here ∈ wAll := wIn 1565 (by decide +kernel) (by decide +kernel)
theorem w_41 : Cond.selects yX11_here.cls yX11_here yX11_here ∈ wAll := wIn 41 (by decide +kernel) (by decide +kernel)
theorem mk_X11_here : mk yX11_here 0 := ⟨by decide +kernel, w_110⟩
theorem w_1567 : Cond.instanceMethod yX11_here ∈ wAll := wIn 1567 (by decide +kernel) (by decide +kernel)
theorem w_1568 : Cond.code yX11_here cX11_here 1 (some .int) ∈ wAll := wIn 1568 (by decide +kernel) (by decide +kernel)
theorem dX11_look_4 : decode cX11_look 4 = .ok (.bipush 32, 2) := by decide +kernel
theorem dX11_look_6 : decode cX11_look 6 = .ok (.if_icmp .ne 16, 3) := by decide +kernel
theorem dX11_look_22 : decode cX11_look 22 = .ok (.aload_n 0, 1) := by decide +kernel
theorem dX11_look_23 : decode cX11_look 23 = .ok (.invokevirtual 93, 3) := by decide +kernel
theorem dX11_look_26 : decode cX11_look 26 = .ok (.ireturn, 1) := by decide +kernel
theorem dX11_word_0 : decode cX11_word 0 = .ok (.aload_n 0, 1) := by decide +kernel
theorem dX11_word_1 : decode cX11_word 1 = .ok (.invokevirtual 100, 3) := by decide +kernel
theorem w_1561 : Cond.methodLink "QuarterWalksModel" 100 yX11_look ∈ wAll := wIn 1561 (by decide +kernel) (by decide +kernel)
theorem w_40 : Cond.selects yX11_look.cls yX11_look yX11_look ∈ wAll := wIn 40 (by decide +kernel) (by decide +kernel)
theorem mk_X11_look : mk yX11_look 0 := ⟨by decide +kernel, w_110⟩
theorem w_1563 : Cond.instanceMethod yX11_look ∈ wAll := wIn 1563 (by decide +kernel) (by decide +kernel)
theorem w_1564 : Cond.code yX11_look cX11_look 1 (some .int) ∈ wAll := wIn 1564 (by decide +kernel) (by decide +kernel)
theorem dX11_word_4 : decode cX11_word 4 = .ok (.istore_n 2, 1) := by decide +kernel
theorem dX11_word_5 : decode cX11_word 5 = .ok (.iconst 0, 1) := by decide +kernel
theorem dX11_word_6 : decode cX11_word 6 = .ok (.istore_n 3, 1) := by decide +kernel
theorem dX11_word_7 : decode cX11_word 7 = .ok (.iload_n 3, 1) := by decide +kernel
theorem dX11_word_8 : decode cX11_word 8 = .ok (.aload_n 1, 1) := by decide +kernel
theorem dX11_word_9 : decode cX11_word 9 = .ok (.invokevirtual 103, 3) := by decide +kernel
theorem w_1578 : Cond.methodLink "QuarterWalksModel" 103 yJ0_length_8abf5 ∈ wAll := wIn 1578 (by decide +kernel) (by decide +kernel)
theorem w_1253 : Cond.selects yJ0_length_8abf5.cls yJ0_length_8abf5 yJ0_length_8abf5 ∈ wAll := wIn 1253 (by decide +kernel) (by decide +kernel)
theorem mk_J0_length_8abf5 : mk yJ0_length_8abf5 0 := ⟨by decide +kernel, w_108⟩
theorem w_1252 : Cond.instanceMethod yJ0_length_8abf5 ∈ wAll := wIn 1252 (by decide +kernel) (by decide +kernel)
theorem w_1254 : Cond.code yJ0_length_8abf5 cJ0_length_8abf5 1 (some .int) ∈ wAll := wIn 1254 (by decide +kernel) (by decide +kernel)
theorem dX11_word_12 : decode cX11_word 12 = .ok (.if_icmp .ge 43, 3) := by decide +kernel
theorem dX11_word_15 : decode cX11_word 15 = .ok (.aload_n 0, 1) := by decide +kernel
theorem dX11_word_16 : decode cX11_word 16 = .ok (.getfield 90, 3) := by decide +kernel
theorem dX11_word_19 : decode cX11_word 19 = .ok (.iload_n 3, 1) := by decide +kernel
theorem dX11_word_20 : decode cX11_word 20 = .ok (.iadd, 1) := by decide +kernel
theorem dX11_word_21 : decode cX11_word 21 = .ok (.aload_n 0, 1) := by decide +kernel
theorem dX11_word_22 : decode cX11_word 22 = .ok (.getfield 79, 3) := by decide +kernel
theorem dX11_word_25 : decode cX11_word 25 = .ok (.if_icmp .ge 22, 3) := by decide +kernel
theorem dX11_word_47 : decode cX11_word 47 = .ok (.iconst 0, 1) := by decide +kernel
theorem dX11_word_48 : decode cX11_word 48 = .ok (.ireturn, 1) := by decide +kernel
theorem dX11_stepHere_0 : decode cX11_stepHere 0 = .ok (.aload_n 0, 1) := by decide +kernel
theorem dX11_stepHere_1 : decode cX11_stepHere 1 = .ok (.ldc 114, 2) := by decide +kernel
theorem dX11_stepHere_3 : decode cX11_stepHere 3 = .ok (.invokevirtual 116, 3) := by decide +kernel
theorem w_1574 : Cond.methodLink "QuarterWalksModel" 116 yX11_word ∈ wAll := wIn 1574 (by decide +kernel) (by decide +kernel)
theorem w_43 : Cond.selects yX11_word.cls yX11_word yX11_word ∈ wAll := wIn 43 (by decide +kernel) (by decide +kernel)
theorem mk_X11_word : mk yX11_word 1 := ⟨by decide +kernel, w_110⟩
theorem w_1576 : Cond.instanceMethod yX11_word ∈ wAll := wIn 1576 (by decide +kernel) (by decide +kernel)
theorem w_1577 : Cond.code yX11_word cX11_word 4 (some .boolean) ∈ wAll := wIn 1577 (by decide +kernel) (by decide +kernel)
theorem dX11_stepHere_6 : decode cX11_stepHere 6 = .ok (.ifCond .eq 5, 3) := by decide +kernel
theorem dX11_stepHere_11 : decode cX11_stepHere 11 = .ok (.aload_n 0, 1) := by decide +kernel
theorem dX11_stepHere_12 : decode cX11_stepHere 12 = .ok (.ldc 120, 2) := by decide +kernel
theorem dX11_stepHere_14 : decode cX11_stepHere 14 = .ok (.invokevirtual 116, 3) := by decide +kernel
theorem dX11_stepHere_17 : decode cX11_stepHere 17 = .ok (.ifCond .eq 5, 3) := by decide +kernel
theorem dX11_stepHere_22 : decode cX11_stepHere 22 = .ok (.aload_n 0, 1) := by decide +kernel
theorem dX11_stepHere_23 : decode cX11_stepHere 23 = .ok (.ldc 122, 2) := by decide +kernel
theorem dX11_stepHere_25 : decode cX11_stepHere 25 = .ok (.invokevirtual 116, 3) := by decide +kernel
theorem dX11_stepHere_28 : decode cX11_stepHere 28 = .ok (.ifCond .eq 5, 3) := by decide +kernel
theorem dX11_stepHere_33 : decode cX11_stepHere 33 = .ok (.aload_n 0, 1) := by decide +kernel
theorem dX11_stepHere_34 : decode cX11_stepHere 34 = .ok (.ldc 124, 2) := by decide +kernel
theorem dX11_stepHere_36 : decode cX11_stepHere 36 = .ok (.invokevirtual 116, 3) := by decide +kernel
theorem dX11_stepHere_39 : decode cX11_stepHere 39 = .ok (.ifCond .eq 5, 3) := by decide +kernel
theorem dX11_stepHere_44 : decode cX11_stepHere 44 = .ok (.aload_n 0, 1) := by decide +kernel
theorem dX11_stepHere_45 : decode cX11_stepHere 45 = .ok (.ldc 126, 2) := by decide +kernel
theorem dX11_stepHere_47 : decode cX11_stepHere 47 = .ok (.invokevirtual 116, 3) := by decide +kernel
theorem dX11_stepHere_50 : decode cX11_stepHere 50 = .ok (.ifCond .eq 5, 3) := by decide +kernel
theorem dX11_stepHere_55 : decode cX11_stepHere 55 = .ok (.aload_n 0, 1) := by decide +kernel
theorem dX11_stepHere_56 : decode cX11_stepHere 56 = .ok (.ldc 128, 2) := by decide +kernel
theorem dX11_stepHere_58 : decode cX11_stepHere 58 = .ok (.invokevirtual 116, 3) := by decide +kernel
theorem dX11_stepHere_61 : decode cX11_stepHere 61 = .ok (.ifCond .eq 5, 3) := by decide +kernel
theorem dX11_stepHere_66 : decode cX11_stepHere 66 = .ok (.aload_n 0, 1) := by decide +kernel
theorem dX11_stepHere_67 : decode cX11_stepHere 67 = .ok (.ldc 130, 2) := by decide +kernel
theorem dX11_stepHere_69 : decode cX11_stepHere 69 = .ok (.invokevirtual 116, 3) := by decide +kernel
theorem dX11_stepHere_72 : decode cX11_stepHere 72 = .ok (.ifCond .eq 6, 3) := by decide +kernel
theorem dX11_stepHere_78 : decode cX11_stepHere 78 = .ok (.aload_n 0, 1) := by decide +kernel
theorem dX11_stepHere_79 : decode cX11_stepHere 79 = .ok (.ldc 132, 2) := by decide +kernel
theorem dX11_stepHere_81 : decode cX11_stepHere 81 = .ok (.invokevirtual 116, 3) := by decide +kernel
theorem dX11_stepHere_84 : decode cX11_stepHere 84 = .ok (.ifCond .eq 8, 3) := by decide +kernel
theorem dX11_stepHere_92 : decode cX11_stepHere 92 = .ok (.iconst (-1), 1) := by decide +kernel
theorem dX11_stepHere_93 : decode cX11_stepHere 93 = .ok (.ireturn, 1) := by decide +kernel
theorem dX11_fails_0 : decode cX11_fails 0 = .ok (.aload_n 0, 1) := by decide +kernel
theorem dX11_fails_1 : decode cX11_fails 1 = .ok (.getfield 97, 3) := by decide +kernel
theorem w_1437 : Cond.fieldLink "QuarterWalksModel" 97 "QuarterWalksModel" "fault" "I" ∈ wAll := wIn 1437 (by decide +kernel) (by decide +kernel)
theorem fl_X11_97 : fl RX11 97 12 4 := ⟨RX11, TX11, 32, rfl, inA_X11, by decide, w_1437⟩
theorem dX11_fails_4 : decode cX11_fails 4 = .ok (.iconst (-1), 1) := by decide +kernel
theorem dX11_fails_5 : decode cX11_fails 5 = .ok (.if_icmp .ne 8, 3) := by decide +kernel
theorem dX11_fails_8 : decode cX11_fails 8 = .ok (.aload_n 0, 1) := by decide +kernel
theorem dX11_fails_9 : decode cX11_fails 9 = .ok (.iload_n 1, 1) := by decide +kernel
theorem dX11_fails_10 : decode cX11_fails 10 = .ok (.putfield 97, 3) := by decide +kernel
theorem flw_X11_97 : flw RX11 97 12 4 (.int) := ⟨RX11, TX11, 32, tyX11, rfl, inA_X11, by decide, w_1437, tyX11_ok, nmX11, by decide +kernel, Or.inl rfl⟩
theorem dX11_fails_13 : decode cX11_fails 13 = .ok (.return_, 1) := by decide +kernel
theorem dX11_readsStep_0 : decode cX11_readsStep 0 = .ok (.aload_n 0, 1) := by decide +kernel
theorem dX11_readsStep_1 : decode cX11_readsStep 1 = .ok (.invokevirtual 100, 3) := by decide +kernel
theorem dX11_readsStep_4 : decode cX11_readsStep 4 = .ok (.istore_n 1, 1) := by decide +kernel
theorem dX11_readsStep_5 : decode cX11_readsStep 5 = .ok (.aload_n 0, 1) := by decide +kernel
theorem dX11_readsStep_6 : decode cX11_readsStep 6 = .ok (.getfield 90, 3) := by decide +kernel
theorem dX11_readsStep_9 : decode cX11_readsStep 9 = .ok (.istore_n 2, 1) := by decide +kernel
theorem dX11_readsStep_10 : decode cX11_readsStep 10 = .ok (.aload_n 0, 1) := by decide +kernel
theorem dX11_readsStep_11 : decode cX11_readsStep 11 = .ok (.invokevirtual 134, 3) := by decide +kernel
theorem w_1569 : Cond.methodLink "QuarterWalksModel" 134 yX11_stepHere ∈ wAll := wIn 1569 (by decide +kernel) (by decide +kernel)
theorem w_42 : Cond.selects yX11_stepHere.cls yX11_stepHere yX11_stepHere ∈ wAll := wIn 42 (by decide +kernel) (by decide +kernel)
theorem mk_X11_stepHere : mk yX11_stepHere 0 := ⟨by decide +kernel, w_110⟩
theorem w_1571 : Cond.instanceMethod yX11_stepHere ∈ wAll := wIn 1571 (by decide +kernel) (by decide +kernel)
theorem w_1572 : Cond.code yX11_stepHere cX11_stepHere 1 (some .int) ∈ wAll := wIn 1572 (by decide +kernel) (by decide +kernel)
theorem dX11_readsStep_14 : decode cX11_readsStep 14 = .ok (.istore_n 3, 1) := by decide +kernel
theorem dX11_readsStep_15 : decode cX11_readsStep 15 = .ok (.iload_n 3, 1) := by decide +kernel
theorem dX11_readsStep_16 : decode cX11_readsStep 16 = .ok (.iconst (-1), 1) := by decide +kernel
theorem dX11_readsStep_17 : decode cX11_readsStep 17 = .ok (.if_icmp .eq 12, 3) := by decide +kernel
theorem dX11_readsStep_29 : decode cX11_readsStep 29 = .ok (.aload_n 0, 1) := by decide +kernel
theorem dX11_readsStep_30 : decode cX11_readsStep 30 = .ok (.iload_n 2, 1) := by decide +kernel
theorem dX11_readsStep_31 : decode cX11_readsStep 31 = .ok (.invokevirtual 111, 3) := by decide +kernel
theorem w_1587 : Cond.methodLink "QuarterWalksModel" 111 yX11_fails ∈ wAll := wIn 1587 (by decide +kernel) (by decide +kernel)
theorem w_44 : Cond.selects yX11_fails.cls yX11_fails yX11_fails ∈ wAll := wIn 44 (by decide +kernel) (by decide +kernel)
theorem mk_X11_fails : mk yX11_fails 1 := ⟨by decide +kernel, w_110⟩
theorem w_1589 : Cond.instanceMethod yX11_fails ∈ wAll := wIn 1589 (by decide +kernel) (by decide +kernel)
theorem w_1590 : Cond.code yX11_fails cX11_fails 2 none ∈ wAll := wIn 1590 (by decide +kernel) (by decide +kernel)
theorem dX11_readsStep_34 : decode cX11_readsStep 34 = .ok (.return_, 1) := by decide +kernel
theorem dX11_reads_0 : decode cX11_reads 0 = .ok (.aload_n 0, 1) := by decide +kernel
theorem dX11_reads_1 : decode cX11_reads 1 = .ok (.iconst 0, 1) := by decide +kernel
theorem dX11_reads_2 : decode cX11_reads 2 = .ok (.putfield 90, 3) := by decide +kernel
theorem flw_X11_90 : flw RX11 90 12 3 (.int) := ⟨RX11, TX11, 32, tyX11, rfl, inA_X11, by decide, w_1436, tyX11_ok, nmX11, by decide +kernel, Or.inl rfl⟩
theorem dX11_reads_5 : decode cX11_reads 5 = .ok (.aload_n 0, 1) := by decide +kernel
theorem dX11_reads_6 : decode cX11_reads 6 = .ok (.iconst (-1), 1) := by decide +kernel
theorem dX11_reads_7 : decode cX11_reads 7 = .ok (.putfield 97, 3) := by decide +kernel
theorem dX11_reads_10 : decode cX11_reads 10 = .ok (.iconst 0, 1) := by decide +kernel
theorem dX11_reads_11 : decode cX11_reads 11 = .ok (.istore_n 1, 1) := by decide +kernel
theorem dX11_reads_12 : decode cX11_reads 12 = .ok (.iload_n 1, 1) := by decide +kernel
theorem dX11_reads_13 : decode cX11_reads 13 = .ok (.bipush 10, 2) := by decide +kernel
theorem dX11_reads_15 : decode cX11_reads 15 = .ok (.if_icmp .ge 16, 3) := by decide +kernel
theorem dX11_reads_18 : decode cX11_reads 18 = .ok (.aload_n 0, 1) := by decide +kernel
theorem dX11_reads_19 : decode cX11_reads 19 = .ok (.getfield 13, 3) := by decide +kernel
theorem w_1438 : Cond.fieldLink "QuarterWalksModel" 13 "QuarterWalksModel" "read" "[I" ∈ wAll := wIn 1438 (by decide +kernel) (by decide +kernel)
theorem fl_X11_13 : fl RX11 13 12 5 := ⟨RX11, TX11, 32, rfl, inA_X11, by decide, w_1438⟩
theorem dX11_reads_22 : decode cX11_reads 22 = .ok (.iload_n 1, 1) := by decide +kernel
theorem dX11_reads_23 : decode cX11_reads 23 = .ok (.iconst 0, 1) := by decide +kernel
theorem dX11_reads_24 : decode cX11_reads 24 = .ok (.iastore, 1) := by decide +kernel
theorem dX11_reads_25 : decode cX11_reads 25 = .ok (.iinc 1 1, 3) := by decide +kernel
theorem dX11_reads_28 : decode cX11_reads 28 = .ok (.goto (-16), 3) := by decide +kernel
theorem dX11_reads_31 : decode cX11_reads 31 = .ok (.aload_n 0, 1) := by decide +kernel
theorem dX11_reads_32 : decode cX11_reads 32 = .ok (.invokevirtual 146, 3) := by decide +kernel
theorem w_1557 : Cond.methodLink "QuarterWalksModel" 146 yX11_readsStep ∈ wAll := wIn 1557 (by decide +kernel) (by decide +kernel)
theorem w_39 : Cond.selects yX11_readsStep.cls yX11_readsStep yX11_readsStep ∈ wAll := wIn 39 (by decide +kernel) (by decide +kernel)
theorem mk_X11_readsStep : mk yX11_readsStep 0 := ⟨by decide +kernel, w_110⟩
theorem w_1559 : Cond.instanceMethod yX11_readsStep ∈ wAll := wIn 1559 (by decide +kernel) (by decide +kernel)
theorem w_1560 : Cond.code yX11_readsStep cX11_readsStep 4 none ∈ wAll := wIn 1560 (by decide +kernel) (by decide +kernel)
theorem dX11_reads_35 : decode cX11_reads 35 = .ok (.aload_n 0, 1) := by decide +kernel
theorem dX11_reads_36 : decode cX11_reads 36 = .ok (.getfield 97, 3) := by decide +kernel
theorem dX11_reads_39 : decode cX11_reads 39 = .ok (.iconst (-1), 1) := by decide +kernel
theorem dX11_reads_40 : decode cX11_reads 40 = .ok (.if_icmp .ne 20, 3) := by decide +kernel
theorem dX11_reads_60 : decode cX11_reads 60 = .ok (.aload_n 0, 1) := by decide +kernel
theorem dX11_reads_61 : decode cX11_reads 61 = .ok (.getfield 97, 3) := by decide +kernel
theorem dX11_reads_64 : decode cX11_reads 64 = .ok (.iconst (-1), 1) := by decide +kernel
theorem dX11_reads_65 : decode cX11_reads 65 = .ok (.if_icmp .ne 16, 3) := by decide +kernel
theorem dX11_reads_81 : decode cX11_reads 81 = .ok (.aload_n 0, 1) := by decide +kernel
theorem dX11_reads_82 : decode cX11_reads 82 = .ok (.getfield 97, 3) := by decide +kernel
theorem dX11_reads_85 : decode cX11_reads 85 = .ok (.iconst (-1), 1) := by decide +kernel
theorem dX11_reads_86 : decode cX11_reads 86 = .ok (.if_icmp .ne 19, 3) := by decide +kernel
theorem dX11_reads_105 : decode cX11_reads 105 = .ok (.aload_n 0, 1) := by decide +kernel
theorem dX11_reads_106 : decode cX11_reads 106 = .ok (.getfield 97, 3) := by decide +kernel
theorem dX11_reads_109 : decode cX11_reads 109 = .ok (.ireturn, 1) := by decide +kernel
theorem dX11_fault_0 : decode cX11_fault 0 = .ok (.aload_n 0, 1) := by decide +kernel
theorem dX11_fault_1 : decode cX11_fault 1 = .ok (.iconst 0, 1) := by decide +kernel
theorem dX11_fault_2 : decode cX11_fault 2 = .ok (.putfield 75, 3) := by decide +kernel
theorem dX11_fault_5 : decode cX11_fault 5 = .ok (.aload_n 0, 1) := by decide +kernel
theorem dX11_fault_6 : decode cX11_fault 6 = .ok (.invokevirtual 152, 3) := by decide +kernel
theorem w_1553 : Cond.methodLink "QuarterWalksModel" 152 yX11_reads ∈ wAll := wIn 1553 (by decide +kernel) (by decide +kernel)
theorem w_38 : Cond.selects yX11_reads.cls yX11_reads yX11_reads ∈ wAll := wIn 38 (by decide +kernel) (by decide +kernel)
theorem mk_X11_reads : mk yX11_reads 0 := ⟨by decide +kernel, w_110⟩
theorem w_1555 : Cond.instanceMethod yX11_reads ∈ wAll := wIn 1555 (by decide +kernel) (by decide +kernel)
theorem w_1556 : Cond.code yX11_reads cX11_reads 2 (some .int) ∈ wAll := wIn 1556 (by decide +kernel) (by decide +kernel)
theorem dX11_fault_9 : decode cX11_fault 9 = .ok (.ireturn, 1) := by decide +kernel
theorem dX11_tell_0 : decode cX11_tell 0 = .ok (.aload_n 0, 1) := by decide +kernel
theorem dX11_tell_1 : decode cX11_tell 1 = .ok (.iconst 0, 1) := by decide +kernel
theorem dX11_tell_2 : decode cX11_tell 2 = .ok (.putfield 75, 3) := by decide +kernel
theorem dX11_tell_5 : decode cX11_tell 5 = .ok (.aload_n 0, 1) := by decide +kernel
theorem dX11_tell_6 : decode cX11_tell 6 = .ok (.invokevirtual 152, 3) := by decide +kernel
theorem dX11_tell_9 : decode cX11_tell 9 = .ok (.iconst (-1), 1) := by decide +kernel
theorem dX11_tell_10 : decode cX11_tell 10 = .ok (.if_icmp .eq 9, 3) := by decide +kernel
theorem dX11_tell_13 : decode cX11_tell 13 = .ok (.aload_n 0, 1) := by decide +kernel
theorem dX11_tell_14 : decode cX11_tell 14 = .ok (.iconst 0, 1) := by decide +kernel
theorem dX11_tell_15 : decode cX11_tell 15 = .ok (.invokevirtual 165, 3) := by decide +kernel
theorem dX11_tell_18 : decode cX11_tell 18 = .ok (.ireturn, 1) := by decide +kernel
theorem dX11_undo_0 : decode cX11_undo 0 = .ok (.aload_n 0, 1) := by decide +kernel
theorem dX11_undo_1 : decode cX11_undo 1 = .ok (.iconst 0, 1) := by decide +kernel
theorem dX11_undo_2 : decode cX11_undo 2 = .ok (.putfield 75, 3) := by decide +kernel
theorem dX11_undo_5 : decode cX11_undo 5 = .ok (.aload_n 0, 1) := by decide +kernel
theorem dX11_undo_6 : decode cX11_undo 6 = .ok (.getfield 155, 3) := by decide +kernel
theorem w_1443 : Cond.fieldLink "QuarterWalksModel" 155 "QuarterWalksModel" "acts" "I" ∈ wAll := wIn 1443 (by decide +kernel) (by decide +kernel)
theorem fl_X11_155 : fl RX11 155 12 10 := ⟨RX11, TX11, 32, rfl, inA_X11, by decide, w_1443⟩
theorem dX11_undo_9 : decode cX11_undo 9 = .ok (.ifCond .ne 5, 3) := by decide +kernel
theorem dX11_undo_12 : decode cX11_undo 12 = .ok (.iconst (-1), 1) := by decide +kernel
theorem dX11_undo_13 : decode cX11_undo 13 = .ok (.ireturn, 1) := by decide +kernel
theorem dX11_back_0 : decode cX11_back 0 = .ok (.aload_n 0, 1) := by decide +kernel
theorem dX11_back_1 : decode cX11_back 1 = .ok (.iconst 0, 1) := by decide +kernel
theorem dX11_back_2 : decode cX11_back 2 = .ok (.putfield 75, 3) := by decide +kernel
theorem dX11_back_5 : decode cX11_back 5 = .ok (.aload_n 0, 1) := by decide +kernel
theorem dX11_back_6 : decode cX11_back 6 = .ok (.getfield 437, 3) := by decide +kernel
theorem w_1444 : Cond.fieldLink "QuarterWalksModel" 437 "QuarterWalksModel" "hasImage" "Z" ∈ wAll := wIn 1444 (by decide +kernel) (by decide +kernel)
theorem fl_X11_437 : fl RX11 437 12 11 := ⟨RX11, TX11, 32, rfl, inA_X11, by decide, w_1444⟩
theorem dX11_back_9 : decode cX11_back 9 = .ok (.ifCond .ne 5, 3) := by decide +kernel
theorem dX11_back_12 : decode cX11_back 12 = .ok (.iconst (-1), 1) := by decide +kernel
theorem dX11_back_13 : decode cX11_back 13 = .ok (.ireturn, 1) := by decide +kernel
theorem dX11_unlike_0 : decode cX11_unlike 0 = .ok (.iconst 0, 1) := by decide +kernel
theorem dX11_unlike_1 : decode cX11_unlike 1 = .ok (.istore_n 1, 1) := by decide +kernel
theorem dX11_unlike_2 : decode cX11_unlike 2 = .ok (.iconst 0, 1) := by decide +kernel
theorem dX11_unlike_3 : decode cX11_unlike 3 = .ok (.istore_n 2, 1) := by decide +kernel
theorem dX11_unlike_4 : decode cX11_unlike 4 = .ok (.iload_n 2, 1) := by decide +kernel
theorem dX11_unlike_5 : decode cX11_unlike 5 = .ok (.aload_n 0, 1) := by decide +kernel
theorem dX11_unlike_6 : decode cX11_unlike 6 = .ok (.getfield 17, 3) := by decide +kernel
theorem dX11_unlike_9 : decode cX11_unlike 9 = .ok (.bipush 80, 2) := by decide +kernel
theorem dX11_unlike_11 : decode cX11_unlike 11 = .ok (.iaload, 1) := by decide +kernel
theorem dX11_unlike_12 : decode cX11_unlike 12 = .ok (.if_icmp .ge 56, 3) := by decide +kernel
theorem dX11_unlike_68 : decode cX11_unlike 68 = .ok (.iload_n 1, 1) := by decide +kernel
theorem dX11_unlike_69 : decode cX11_unlike 69 = .ok (.ireturn, 1) := by decide +kernel
theorem dX11_image_0 : decode cX11_image 0 = .ok (.aload_n 0, 1) := by decide +kernel
theorem dX11_image_1 : decode cX11_image 1 = .ok (.iconst 0, 1) := by decide +kernel
theorem dX11_image_2 : decode cX11_image 2 = .ok (.putfield 75, 3) := by decide +kernel
theorem dX11_image_5 : decode cX11_image 5 = .ok (.iconst 0, 1) := by decide +kernel
theorem dX11_image_6 : decode cX11_image 6 = .ok (.istore_n 1, 1) := by decide +kernel
theorem dX11_image_7 : decode cX11_image 7 = .ok (.iload_n 1, 1) := by decide +kernel
theorem dX11_image_8 : decode cX11_image 8 = .ok (.bipush 81, 2) := by decide +kernel
theorem dX11_image_10 : decode cX11_image 10 = .ok (.if_icmp .ge 21, 3) := by decide +kernel
theorem dX11_image_13 : decode cX11_image 13 = .ok (.aload_n 0, 1) := by decide +kernel
theorem dX11_image_14 : decode cX11_image 14 = .ok (.getfield 20, 3) := by decide +kernel
theorem w_1440 : Cond.fieldLink "QuarterWalksModel" 20 "QuarterWalksModel" "image" "[I" ∈ wAll := wIn 1440 (by decide +kernel) (by decide +kernel)
theorem fl_X11_20 : fl RX11 20 12 7 := ⟨RX11, TX11, 32, rfl, inA_X11, by decide, w_1440⟩
theorem dX11_image_17 : decode cX11_image 17 = .ok (.iload_n 1, 1) := by decide +kernel
theorem dX11_image_18 : decode cX11_image 18 = .ok (.aload_n 0, 1) := by decide +kernel
theorem dX11_image_19 : decode cX11_image 19 = .ok (.getfield 17, 3) := by decide +kernel
theorem dX11_image_22 : decode cX11_image 22 = .ok (.iload_n 1, 1) := by decide +kernel
theorem dX11_image_23 : decode cX11_image 23 = .ok (.iaload, 1) := by decide +kernel
theorem dX11_image_24 : decode cX11_image 24 = .ok (.iastore, 1) := by decide +kernel
theorem dX11_image_25 : decode cX11_image 25 = .ok (.iinc 1 1, 3) := by decide +kernel
theorem dX11_image_28 : decode cX11_image 28 = .ok (.goto (-21), 3) := by decide +kernel
theorem dX11_image_31 : decode cX11_image 31 = .ok (.aload_n 0, 1) := by decide +kernel
theorem dX11_image_32 : decode cX11_image 32 = .ok (.iconst 1, 1) := by decide +kernel
theorem dX11_image_33 : decode cX11_image 33 = .ok (.putfield 437, 3) := by decide +kernel
theorem flw_X11_437 : flw RX11 437 12 11 (.boolean) := ⟨RX11, TX11, 32, tyX11, rfl, inA_X11, by decide, w_1444, tyX11_ok, nmX11, by decide +kernel, Or.inl rfl⟩
theorem dX11_image_36 : decode cX11_image 36 = .ok (.aload_n 0, 1) := by decide +kernel
theorem dX11_image_37 : decode cX11_image 37 = .ok (.getfield 17, 3) := by decide +kernel
theorem dX11_image_40 : decode cX11_image 40 = .ok (.bipush 80, 2) := by decide +kernel
theorem dX11_image_42 : decode cX11_image 42 = .ok (.iaload, 1) := by decide +kernel
theorem dX11_image_43 : decode cX11_image 43 = .ok (.ireturn, 1) := by decide +kernel
theorem dX11_end_0 : decode cX11_end 0 = .ok (.aload_n 0, 1) := by decide +kernel
theorem dX11_end_1 : decode cX11_end 1 = .ok (.iconst 0, 1) := by decide +kernel
theorem dX11_end_2 : decode cX11_end 2 = .ok (.putfield 75, 3) := by decide +kernel
theorem dX11_end_5 : decode cX11_end 5 = .ok (.iload_n 1, 1) := by decide +kernel
theorem dX11_end_6 : decode cX11_end 6 = .ok (.ifCond .lt 11, 3) := by decide +kernel
theorem dX11_end_17 : decode cX11_end 17 = .ok (.iconst 0, 1) := by decide +kernel
theorem dX11_end_18 : decode cX11_end 18 = .ok (.ireturn, 1) := by decide +kernel
theorem dX11_end_9 : decode cX11_end 9 = .ok (.iload_n 1, 1) := by decide +kernel
theorem dX11_end_10 : decode cX11_end 10 = .ok (.aload_n 0, 1) := by decide +kernel
theorem dX11_end_11 : decode cX11_end 11 = .ok (.getfield 79, 3) := by decide +kernel
theorem dX11_end_14 : decode cX11_end 14 = .ok (.if_icmp .le 5, 3) := by decide +kernel
theorem dX11_end_19 : decode cX11_end 19 = .ok (.aload_n 0, 1) := by decide +kernel
theorem dX11_end_20 : decode cX11_end 20 = .ok (.iload_n 1, 1) := by decide +kernel
theorem dX11_end_21 : decode cX11_end 21 = .ok (.putfield 79, 3) := by decide +kernel
theorem flw_X11_79 : flw RX11 79 12 2 (.int) := ⟨RX11, TX11, 32, tyX11, rfl, inA_X11, by decide, w_1435, tyX11_ok, nmX11, by decide +kernel, Or.inl rfl⟩
theorem dX11_end_24 : decode cX11_end 24 = .ok (.iconst 1, 1) := by decide +kernel
theorem dX11_end_25 : decode cX11_end 25 = .ok (.ireturn, 1) := by decide +kernel
theorem dX11_count_0 : decode cX11_count 0 = .ok (.aload_n 0, 1) := by decide +kernel
theorem dX11_count_1 : decode cX11_count 1 = .ok (.iconst 0, 1) := by decide +kernel
theorem dX11_count_2 : decode cX11_count 2 = .ok (.putfield 75, 3) := by decide +kernel
theorem dX11_count_5 : decode cX11_count 5 = .ok (.iload_n 1, 1) := by decide +kernel
theorem dX11_count_6 : decode cX11_count 6 = .ok (.ifCond .ne 10, 3) := by decide +kernel
theorem dX11_count_16 : decode cX11_count 16 = .ok (.iload_n 1, 1) := by decide +kernel
theorem dX11_count_17 : decode cX11_count 17 = .ok (.iconst 1, 1) := by decide +kernel
theorem dX11_count_18 : decode cX11_count 18 = .ok (.if_icmp .ne 10, 3) := by decide +kernel
theorem dX11_count_28 : decode cX11_count 28 = .ok (.iload_n 1, 1) := by decide +kernel
theorem dX11_count_29 : decode cX11_count 29 = .ok (.iconst 2, 1) := by decide +kernel
theorem dX11_count_30 : decode cX11_count 30 = .ok (.if_icmp .ne 13, 3) := by decide +kernel
theorem dX11_count_43 : decode cX11_count 43 = .ok (.iconst (-1), 1) := by decide +kernel
theorem dX11_count_44 : decode cX11_count 44 = .ok (.ireturn, 1) := by decide +kernel
theorem dX11_count_33 : decode cX11_count 33 = .ok (.aload_n 0, 1) := by decide +kernel
theorem dX11_count_34 : decode cX11_count 34 = .ok (.getfield 17, 3) := by decide +kernel
theorem dX11_count_37 : decode cX11_count 37 = .ok (.bipush 80, 2) := by decide +kernel
theorem dX11_count_39 : decode cX11_count 39 = .ok (.iaload, 1) := by decide +kernel
theorem dX11_count_40 : decode cX11_count 40 = .ok (.goto 4, 3) := by decide +kernel
theorem dX11_count_21 : decode cX11_count 21 = .ok (.aload_n 0, 1) := by decide +kernel
theorem dX11_count_22 : decode cX11_count 22 = .ok (.getfield 155, 3) := by decide +kernel
theorem dX11_count_25 : decode cX11_count 25 = .ok (.goto 19, 3) := by decide +kernel
theorem dX11_count_9 : decode cX11_count 9 = .ok (.aload_n 0, 1) := by decide +kernel
theorem dX11_count_10 : decode cX11_count 10 = .ok (.getfield 79, 3) := by decide +kernel
theorem dX11_count_13 : decode cX11_count 13 = .ok (.goto 31, 3) := by decide +kernel
theorem dX11_most_0 : decode cX11_most 0 = .ok (.aload_n 0, 1) := by decide +kernel
theorem dX11_most_1 : decode cX11_most 1 = .ok (.iconst 0, 1) := by decide +kernel
theorem dX11_most_2 : decode cX11_most 2 = .ok (.putfield 75, 3) := by decide +kernel
theorem dX11_most_5 : decode cX11_most 5 = .ok (.iload_n 1, 1) := by decide +kernel
theorem dX11_most_6 : decode cX11_most 6 = .ok (.iconst 3, 1) := by decide +kernel
theorem dX11_most_7 : decode cX11_most 7 = .ok (.if_icmp .ne 8, 3) := by decide +kernel
theorem dX11_most_15 : decode cX11_most 15 = .ok (.aload_n 0, 1) := by decide +kernel
theorem dX11_most_16 : decode cX11_most 16 = .ok (.getfield 17, 3) := by decide +kernel
theorem dX11_most_19 : decode cX11_most 19 = .ok (.bipush 80, 2) := by decide +kernel
theorem dX11_most_21 : decode cX11_most 21 = .ok (.iaload, 1) := by decide +kernel
theorem dX11_most_22 : decode cX11_most 22 = .ok (.ifCond .eq 15, 3) := by decide +kernel
theorem dX11_most_37 : decode cX11_most 37 = .ok (.iconst (-1), 1) := by decide +kernel
theorem dX11_most_38 : decode cX11_most 38 = .ok (.ireturn, 1) := by decide +kernel
theorem dX11_most_10 : decode cX11_most 10 = .ok (.aload_n 0, 1) := by decide +kernel
theorem dX11_most_11 : decode cX11_most 11 = .ok (.invokevirtual 447, 3) := by decide +kernel
theorem w_2042 : Cond.methodLink "QuarterWalksModel" 447 yX11_unlike ∈ wAll := wIn 2042 (by decide +kernel) (by decide +kernel)
theorem w_91 : Cond.selects yX11_unlike.cls yX11_unlike yX11_unlike ∈ wAll := wIn 91 (by decide +kernel) (by decide +kernel)
theorem mk_X11_unlike : mk yX11_unlike 0 := ⟨by decide +kernel, w_110⟩
theorem w_2044 : Cond.instanceMethod yX11_unlike ∈ wAll := wIn 2044 (by decide +kernel) (by decide +kernel)
theorem w_2045 : Cond.code yX11_unlike cX11_unlike 5 (some .int) ∈ wAll := wIn 2045 (by decide +kernel) (by decide +kernel)
theorem dX11_most_14 : decode cX11_most 14 = .ok (.ireturn, 1) := by decide +kernel
theorem dX11_status_0 : decode cX11_status 0 = .ok (.aload_n 0, 1) := by decide +kernel
theorem dX11_status_1 : decode cX11_status 1 = .ok (.iconst 0, 1) := by decide +kernel
theorem dX11_status_2 : decode cX11_status 2 = .ok (.putfield 75, 3) := by decide +kernel
theorem dX11_status_5 : decode cX11_status 5 = .ok (.iload_n 1, 1) := by decide +kernel
theorem dX11_status_6 : decode cX11_status 6 = .ok (.i2l, 1) := by decide +kernel
theorem dX11_status_7 : decode cX11_status 7 = .ok (.lconst 0, 1) := by decide +kernel
theorem dX11_status_8 : decode cX11_status 8 = .ok (.ldc2_w 389, 3) := by decide +kernel
theorem w_1944 : Cond.constantLong "QuarterWalksModel" 389 3 ∈ wAll := wIn 1944 (by decide +kernel) (by decide +kernel)
theorem dX11_status_11 : decode cX11_status 11 = .ok (.invokestatic 158, 3) := by decide +kernel
theorem dX11_status_14 : decode cX11_status 14 = .ok (.ifCond .eq 12, 3) := by decide +kernel
theorem dX11_status_26 : decode cX11_status 26 = .ok (.iconst (-1), 1) := by decide +kernel
theorem dX11_status_27 : decode cX11_status 27 = .ok (.ireturn, 1) := by decide +kernel
theorem dX11_status_17 : decode cX11_status 17 = .ok (.aload_n 0, 1) := by decide +kernel
theorem dX11_status_18 : decode cX11_status 18 = .ok (.getfield 26, 3) := by decide +kernel
theorem dX11_status_21 : decode cX11_status 21 = .ok (.iload_n 1, 1) := by decide +kernel
theorem dX11_status_22 : decode cX11_status 22 = .ok (.iaload, 1) := by decide +kernel
theorem dX11_status_23 : decode cX11_status 23 = .ok (.goto 4, 3) := by decide +kernel
theorem dJ7_fill_53178_0 : decode cJ7_fill_53178 0 = .ok (.iconst 0, 1) := by decide +kernel
theorem dJ7_fill_53178_1 : decode cJ7_fill_53178 1 = .ok (.istore_n 2, 1) := by decide +kernel
theorem dJ7_fill_53178_2 : decode cJ7_fill_53178 2 = .ok (.aload_n 0, 1) := by decide +kernel
theorem dJ7_fill_53178_3 : decode cJ7_fill_53178 3 = .ok (.arraylength, 1) := by decide +kernel
theorem dJ7_fill_53178_4 : decode cJ7_fill_53178 4 = .ok (.istore_n 3, 1) := by decide +kernel
theorem dJ7_fill_53178_5 : decode cJ7_fill_53178 5 = .ok (.iload_n 2, 1) := by decide +kernel
theorem dJ7_fill_53178_6 : decode cJ7_fill_53178 6 = .ok (.iload_n 3, 1) := by decide +kernel
theorem dJ7_fill_53178_7 : decode cJ7_fill_53178 7 = .ok (.if_icmp .ge 13, 3) := by decide +kernel
theorem dJ7_fill_53178_10 : decode cJ7_fill_53178 10 = .ok (.aload_n 0, 1) := by decide +kernel
theorem dJ7_fill_53178_11 : decode cJ7_fill_53178 11 = .ok (.iload_n 2, 1) := by decide +kernel
theorem dJ7_fill_53178_12 : decode cJ7_fill_53178 12 = .ok (.iload_n 1, 1) := by decide +kernel
theorem dJ7_fill_53178_13 : decode cJ7_fill_53178 13 = .ok (.iastore, 1) := by decide +kernel
theorem dJ7_fill_53178_14 : decode cJ7_fill_53178 14 = .ok (.iinc 2 1, 3) := by decide +kernel
theorem dJ7_fill_53178_17 : decode cJ7_fill_53178 17 = .ok (.goto (-12), 3) := by decide +kernel
theorem dJ7_fill_53178_20 : decode cJ7_fill_53178 20 = .ok (.return_, 1) := by decide +kernel
theorem dX7_read_0 : decode cX7_read 0 = .ok (.aload_n 0, 1) := by decide +kernel
theorem dX7_read_1 : decode cX7_read 1 = .ok (.getfield 15, 3) := by decide +kernel
theorem w_146 : Cond.lays "QuarterWalks$Tape" "QuarterWalks$Tape" "length" "I" ∈ wAll := wIn 146 (by decide +kernel) (by decide +kernel)
theorem w_148 : Cond.laysFinal "QuarterWalks$Tape" "QuarterWalks$Tape" "bytes" "[I" ∈ wAll := wIn 148 (by decide +kernel) (by decide +kernel)
theorem w_150 : Cond.laysFinal "QuarterWalks$Tape" "QuarterWalks$Tape" "weights" "[I" ∈ wAll := wIn 150 (by decide +kernel) (by decide +kernel)
theorem w_152 : Cond.lays "QuarterWalks$Tape" "QuarterWalks$Tape" "startX" "I" ∈ wAll := wIn 152 (by decide +kernel) (by decide +kernel)
theorem w_154 : Cond.lays "QuarterWalks$Tape" "QuarterWalks$Tape" "startY" "I" ∈ wAll := wIn 154 (by decide +kernel) (by decide +kernel)
theorem w_156 : Cond.lays "QuarterWalks$Tape" "QuarterWalks$Tape" "behind" "I" ∈ wAll := wIn 156 (by decide +kernel) (by decide +kernel)
theorem w_158 : Cond.lays "QuarterWalks$Tape" "QuarterWalks$Tape" "lastStep" "I" ∈ wAll := wIn 158 (by decide +kernel) (by decide +kernel)
theorem inA_X7 : ∀ w ∈ u_ws RX7 TX7 7, w ∈ wAll := List.forall_mem_cons.mpr ⟨w_146, List.forall_mem_cons.mpr ⟨w_148, List.forall_mem_cons.mpr ⟨w_150, List.forall_mem_cons.mpr ⟨w_152, List.forall_mem_cons.mpr ⟨w_154, List.forall_mem_cons.mpr ⟨w_156, List.forall_mem_cons.mpr ⟨w_158, fun _ h => absurd h List.not_mem_nil⟩⟩⟩⟩⟩⟩⟩
theorem w_141 : Cond.fieldLink "QuarterWalks$Tape" 15 "QuarterWalks$Tape" "weights" "[I" ∈ wAll := wIn 141 (by decide +kernel) (by decide +kernel)
theorem fl_X7_15 : fl RX7 15 8 2 := ⟨RX7, TX7, 7, rfl, inA_X7, by decide, w_141⟩
theorem dX7_read_4 : decode cX7_read 4 = .ok (.iconst 0, 1) := by decide +kernel
theorem dX7_read_5 : decode cX7_read 5 = .ok (.invokestatic 33, 3) := by decide +kernel
theorem w_436 : Cond.methodLink "QuarterWalks$Tape" 33 yJ7_fill_53178 ∈ wAll := wIn 436 (by decide +kernel) (by decide +kernel)
theorem w_111 : Cond.initialized "java/util/Arrays" ∈ wAll := wIn 111 (by decide +kernel) (by decide +kernel)
theorem mk_J7_fill_53178 : mk yJ7_fill_53178 2 := ⟨by decide +kernel, w_111⟩
theorem w_437 : Cond.static yJ7_fill_53178 ∈ wAll := wIn 437 (by decide +kernel) (by decide +kernel)
theorem w_438 : Cond.code yJ7_fill_53178 cJ7_fill_53178 4 none ∈ wAll := wIn 438 (by decide +kernel) (by decide +kernel)
theorem dX7_read_8 : decode cX7_read 8 = .ok (.aload_n 0, 1) := by decide +kernel
theorem dX7_read_9 : decode cX7_read 9 = .ok (.iconst 0, 1) := by decide +kernel
theorem dX7_read_10 : decode cX7_read 10 = .ok (.putfield 24, 3) := by decide +kernel
theorem w_142 : Cond.fieldLink "QuarterWalks$Tape" 24 "QuarterWalks$Tape" "startX" "I" ∈ wAll := wIn 142 (by decide +kernel) (by decide +kernel)
theorem flw_X7_24 : flw RX7 24 8 3 (.int) := ⟨RX7, TX7, 7, tyX7, rfl, inA_X7, by decide, w_142, tyX7_ok, nmX7, by decide +kernel, Or.inl rfl⟩
theorem dX7_read_13 : decode cX7_read 13 = .ok (.aload_n 0, 1) := by decide +kernel
theorem dX7_read_14 : decode cX7_read 14 = .ok (.iconst 0, 1) := by decide +kernel
theorem dX7_read_15 : decode cX7_read 15 = .ok (.putfield 27, 3) := by decide +kernel
theorem w_143 : Cond.fieldLink "QuarterWalks$Tape" 27 "QuarterWalks$Tape" "startY" "I" ∈ wAll := wIn 143 (by decide +kernel) (by decide +kernel)
theorem flw_X7_27 : flw RX7 27 8 4 (.int) := ⟨RX7, TX7, 7, tyX7, rfl, inA_X7, by decide, w_143, tyX7_ok, nmX7, by decide +kernel, Or.inl rfl⟩
theorem dX7_read_18 : decode cX7_read 18 = .ok (.aload_n 0, 1) := by decide +kernel
theorem dX7_read_19 : decode cX7_read 19 = .ok (.iconst 0, 1) := by decide +kernel
theorem dX7_read_20 : decode cX7_read 20 = .ok (.putfield 39, 3) := by decide +kernel
theorem w_144 : Cond.fieldLink "QuarterWalks$Tape" 39 "QuarterWalks$Tape" "behind" "I" ∈ wAll := wIn 144 (by decide +kernel) (by decide +kernel)
theorem flw_X7_39 : flw RX7 39 8 5 (.int) := ⟨RX7, TX7, 7, tyX7, rfl, inA_X7, by decide, w_144, tyX7_ok, nmX7, by decide +kernel, Or.inl rfl⟩
theorem dX7_read_23 : decode cX7_read 23 = .ok (.aload_n 0, 1) := by decide +kernel
theorem dX7_read_24 : decode cX7_read 24 = .ok (.iconst 0, 1) := by decide +kernel
theorem dX7_read_25 : decode cX7_read 25 = .ok (.putfield 42, 3) := by decide +kernel
theorem w_145 : Cond.fieldLink "QuarterWalks$Tape" 42 "QuarterWalks$Tape" "lastStep" "I" ∈ wAll := wIn 145 (by decide +kernel) (by decide +kernel)
theorem flw_X7_42 : flw RX7 42 8 6 (.int) := ⟨RX7, TX7, 7, tyX7, rfl, inA_X7, by decide, w_145, tyX7_ok, nmX7, by decide +kernel, Or.inl rfl⟩
theorem dX7_read_28 : decode cX7_read 28 = .ok (.iconst 0, 1) := by decide +kernel
theorem dX7_read_29 : decode cX7_read 29 = .ok (.istore_n 1, 1) := by decide +kernel
theorem dX7_read_30 : decode cX7_read 30 = .ok (.iconst 0, 1) := by decide +kernel
theorem dX7_read_31 : decode cX7_read 31 = .ok (.istore_n 2, 1) := by decide +kernel
theorem dX7_read_32 : decode cX7_read 32 = .ok (.iload_n 2, 1) := by decide +kernel
theorem dX7_read_33 : decode cX7_read 33 = .ok (.aload_n 0, 1) := by decide +kernel
theorem dX7_read_34 : decode cX7_read 34 = .ok (.getfield 18, 3) := by decide +kernel
theorem w_139 : Cond.fieldLink "QuarterWalks$Tape" 18 "QuarterWalks$Tape" "length" "I" ∈ wAll := wIn 139 (by decide +kernel) (by decide +kernel)
theorem fl_X7_18 : fl RX7 18 8 0 := ⟨RX7, TX7, 7, rfl, inA_X7, by decide, w_139⟩
theorem dX7_read_37 : decode cX7_read 37 = .ok (.if_icmp .ge 42, 3) := by decide +kernel
theorem dX7_read_79 : decode cX7_read 79 = .ok (.aload_n 0, 1) := by decide +kernel
theorem dX7_read_80 : decode cX7_read 80 = .ok (.getfield 39, 3) := by decide +kernel
theorem fl_X7_39 : fl RX7 39 8 5 := ⟨RX7, TX7, 7, rfl, inA_X7, by decide, w_144⟩
theorem dX7_read_83 : decode cX7_read 83 = .ok (.iconst 1, 1) := by decide +kernel
theorem dX7_read_84 : decode cX7_read 84 = .ok (.if_icmp .eq 20, 3) := by decide +kernel
theorem dX7_read_87 : decode cX7_read 87 = .ok (.aload_n 0, 1) := by decide +kernel
theorem dX7_read_88 : decode cX7_read 88 = .ok (.getfield 39, 3) := by decide +kernel
theorem dX7_read_91 : decode cX7_read 91 = .ok (.iconst 2, 1) := by decide +kernel
theorem dX7_read_92 : decode cX7_read 92 = .ok (.if_icmp .eq 12, 3) := by decide +kernel
theorem dX7_read_95 : decode cX7_read 95 = .ok (.aload_n 0, 1) := by decide +kernel
theorem dX7_read_96 : decode cX7_read 96 = .ok (.getfield 39, 3) := by decide +kernel
theorem dX7_read_99 : decode cX7_read 99 = .ok (.bipush 6, 2) := by decide +kernel
theorem dX7_read_101 : decode cX7_read 101 = .ok (.if_icmp .ne 7, 3) := by decide +kernel
theorem dX7_read_108 : decode cX7_read 108 = .ok (.aload_n 0, 1) := by decide +kernel
theorem dX7_read_109 : decode cX7_read 109 = .ok (.getfield 18, 3) := by decide +kernel
theorem dX7_read_112 : decode cX7_read 112 = .ok (.ireturn, 1) := by decide +kernel
theorem dX0_size_0 : decode cX0_size 0 = .ok (.aload_n 0, 1) := by decide +kernel
theorem dX0_size_1 : decode cX0_size 1 = .ok (.getfield 12, 3) := by decide +kernel
theorem dX0_size_4 : decode cX0_size 4 = .ok (.getfield 25, 3) := by decide +kernel
theorem dX0_size_7 : decode cX0_size 7 = .ok (.ireturn, 1) := by decide +kernel
theorem dX10_unlikeSets_0 : decode cX10_unlikeSets 0 = .ok (.iconst 0, 1) := by decide +kernel
theorem dX10_unlikeSets_1 : decode cX10_unlikeSets 1 = .ok (.istore_n 1, 1) := by decide +kernel
theorem dX10_unlikeSets_2 : decode cX10_unlikeSets 2 = .ok (.iconst 0, 1) := by decide +kernel
theorem dX10_unlikeSets_3 : decode cX10_unlikeSets 3 = .ok (.istore_n 2, 1) := by decide +kernel
theorem dX10_unlikeSets_4 : decode cX10_unlikeSets 4 = .ok (.iload_n 2, 1) := by decide +kernel
theorem dX10_unlikeSets_5 : decode cX10_unlikeSets 5 = .ok (.aload_n 0, 1) := by decide +kernel
theorem dX10_unlikeSets_6 : decode cX10_unlikeSets 6 = .ok (.getfield 19, 3) := by decide +kernel
theorem dX10_unlikeSets_9 : decode cX10_unlikeSets 9 = .ok (.invokevirtual 370, 3) := by decide +kernel
theorem w_1321 : Cond.methodLink "QuarterWalks" 370 yX0_size ∈ wAll := wIn 1321 (by decide +kernel) (by decide +kernel)
theorem w_1323 : Cond.selects yX0_size.cls yX0_size yX0_size ∈ wAll := wIn 1323 (by decide +kernel) (by decide +kernel)
theorem mk_X0_size : mk yX0_size 0 := ⟨by decide +kernel, w_98⟩
theorem w_1322 : Cond.instanceMethod yX0_size ∈ wAll := wIn 1322 (by decide +kernel) (by decide +kernel)
theorem w_1324 : Cond.code yX0_size cX0_size 1 (some .int) ∈ wAll := wIn 1324 (by decide +kernel) (by decide +kernel)
theorem dX10_unlikeSets_12 : decode cX10_unlikeSets 12 = .ok (.if_icmp .ge 20, 3) := by decide +kernel
theorem dX10_unlikeSets_32 : decode cX10_unlikeSets 32 = .ok (.iload_n 1, 1) := by decide +kernel
theorem dX10_unlikeSets_33 : decode cX10_unlikeSets 33 = .ok (.ireturn, 1) := by decide +kernel
theorem dX0_takeBack_0 : decode cX0_takeBack 0 = .ok (.aload_n 0, 1) := by decide +kernel
theorem dX0_takeBack_1 : decode cX0_takeBack 1 = .ok (.getfield 51, 3) := by decide +kernel
theorem w_186 : Cond.fieldLink "QuarterWalks$Book" 51 "QuarterWalks$Book" "past" "I" ∈ wAll := wIn 186 (by decide +kernel) (by decide +kernel)
theorem fl_X0_51 : fl RX0 51 1 0 := ⟨RX0, TX0, 6, rfl, inA_X0, by decide, w_186⟩
theorem dX0_takeBack_4 : decode cX0_takeBack 4 = .ok (.ifCond .ne 5, 3) := by decide +kernel
theorem dX0_takeBack_7 : decode cX0_takeBack 7 = .ok (.iconst (-1), 1) := by decide +kernel
theorem dX0_takeBack_8 : decode cX0_takeBack 8 = .ok (.ireturn, 1) := by decide +kernel
theorem dX0_restore_0 : decode cX0_restore 0 = .ok (.aload_n 0, 1) := by decide +kernel
theorem dX0_restore_1 : decode cX0_restore 1 = .ok (.getfield 60, 3) := by decide +kernel
theorem w_191 : Cond.fieldLink "QuarterWalks$Book" 60 "QuarterWalks$Book" "isKept" "Z" ∈ wAll := wIn 191 (by decide +kernel) (by decide +kernel)
theorem fl_X0_60 : fl RX0 60 1 4 := ⟨RX0, TX0, 6, rfl, inA_X0, by decide, w_191⟩
theorem dX0_restore_4 : decode cX0_restore 4 = .ok (.ifCond .ne 5, 3) := by decide +kernel
theorem dX0_restore_7 : decode cX0_restore 7 = .ok (.iconst (-1), 1) := by decide +kernel
theorem dX0_restore_8 : decode cX0_restore 8 = .ok (.ireturn, 1) := by decide +kernel
theorem dX5_copy_0 : decode cX5_copy 0 = .ok (.iconst 0, 1) := by decide +kernel
theorem dX5_copy_1 : decode cX5_copy 1 = .ok (.istore_n 2, 1) := by decide +kernel
theorem dX5_copy_2 : decode cX5_copy 2 = .ok (.iload_n 2, 1) := by decide +kernel
theorem dX5_copy_3 : decode cX5_copy 3 = .ok (.bipush 8, 2) := by decide +kernel
theorem dX5_copy_5 : decode cX5_copy 5 = .ok (.if_icmp .ge 21, 3) := by decide +kernel
theorem dX5_copy_8 : decode cX5_copy 8 = .ok (.aload_n 0, 1) := by decide +kernel
theorem dX5_copy_9 : decode cX5_copy 9 = .ok (.getfield 11, 3) := by decide +kernel
theorem w_176 : Cond.fieldLink "QuarterWalks$Shelf" 11 "QuarterWalks$Shelf" "sets" "[LQuarterWalks$StepSet;" ∈ wAll := wIn 176 (by decide +kernel) (by decide +kernel)
theorem fl_X5_11 : fl RX5 11 6 0 := ⟨RX5, TX5, 2, rfl, inA_X5, by decide, w_176⟩
theorem dX5_copy_12 : decode cX5_copy 12 = .ok (.iload_n 2, 1) := by decide +kernel
theorem dX5_copy_13 : decode cX5_copy 13 = .ok (.aload_n 1, 1) := by decide +kernel
theorem dX5_copy_14 : decode cX5_copy 14 = .ok (.getfield 11, 3) := by decide +kernel
theorem dX5_copy_17 : decode cX5_copy 17 = .ok (.iload_n 2, 1) := by decide +kernel
theorem dX5_copy_18 : decode cX5_copy 18 = .ok (.aaload, 1) := by decide +kernel
theorem dX5_copy_19 : decode cX5_copy 19 = .ok (.aastore, 1) := by decide +kernel
theorem dX5_copy_20 : decode cX5_copy 20 = .ok (.iinc 2 1, 3) := by decide +kernel
theorem dX5_copy_23 : decode cX5_copy 23 = .ok (.goto (-21), 3) := by decide +kernel
theorem dX5_copy_26 : decode cX5_copy 26 = .ok (.aload_n 0, 1) := by decide +kernel
theorem dX5_copy_27 : decode cX5_copy 27 = .ok (.aload_n 1, 1) := by decide +kernel
theorem dX5_copy_28 : decode cX5_copy 28 = .ok (.getfield 15, 3) := by decide +kernel
theorem w_179 : Cond.fieldLink "QuarterWalks$Shelf" 15 "QuarterWalks$Shelf" "size" "I" ∈ wAll := wIn 179 (by decide +kernel) (by decide +kernel)
theorem fl_X5_15 : fl RX5 15 6 1 := ⟨RX5, TX5, 2, rfl, inA_X5, by decide, w_179⟩
theorem dX5_copy_31 : decode cX5_copy 31 = .ok (.putfield 15, 3) := by decide +kernel
theorem flw_X5_15 : flw RX5 15 6 1 (.int) := ⟨RX5, TX5, 2, tyX5, rfl, inA_X5, by decide, w_179, tyX5_ok, nmX5, by decide +kernel, Or.inl rfl⟩
theorem dX5_copy_34 : decode cX5_copy 34 = .ok (.return_, 1) := by decide +kernel
theorem dX0_keep_0 : decode cX0_keep 0 = .ok (.aload_n 0, 1) := by decide +kernel
theorem dX0_keep_1 : decode cX0_keep 1 = .ok (.getfield 18, 3) := by decide +kernel
theorem w_189 : Cond.fieldLink "QuarterWalks$Book" 18 "QuarterWalks$Book" "kept" "LQuarterWalks$Shelf;" ∈ wAll := wIn 189 (by decide +kernel) (by decide +kernel)
theorem fl_X0_18 : fl RX0 18 1 2 := ⟨RX0, TX0, 6, rfl, inA_X0, by decide, w_189⟩
theorem dX0_keep_4 : decode cX0_keep 4 = .ok (.aload_n 0, 1) := by decide +kernel
theorem dX0_keep_5 : decode cX0_keep 5 = .ok (.getfield 12, 3) := by decide +kernel
theorem dX0_keep_8 : decode cX0_keep 8 = .ok (.invokevirtual 47, 3) := by decide +kernel
theorem w_585 : Cond.methodLink "QuarterWalks$Book" 47 yX5_copy ∈ wAll := wIn 585 (by decide +kernel) (by decide +kernel)
theorem w_587 : Cond.selects yX5_copy.cls yX5_copy yX5_copy ∈ wAll := wIn 587 (by decide +kernel) (by decide +kernel)
theorem w_99 : Cond.initialized "QuarterWalks$Shelf" ∈ wAll := wIn 99 (by decide +kernel) (by decide +kernel)
theorem mk_X5_copy : mk yX5_copy 1 := ⟨by decide +kernel, w_99⟩
theorem w_586 : Cond.instanceMethod yX5_copy ∈ wAll := wIn 586 (by decide +kernel) (by decide +kernel)
theorem w_588 : Cond.code yX5_copy cX5_copy 3 none ∈ wAll := wIn 588 (by decide +kernel) (by decide +kernel)
theorem dX0_keep_11 : decode cX0_keep 11 = .ok (.aload_n 0, 1) := by decide +kernel
theorem dX0_keep_12 : decode cX0_keep 12 = .ok (.iconst 1, 1) := by decide +kernel
theorem dX0_keep_13 : decode cX0_keep 13 = .ok (.putfield 60, 3) := by decide +kernel
theorem flw_X0_60 : flw RX0 60 1 4 (.boolean) := ⟨RX0, TX0, 6, tyX0, rfl, inA_X0, by decide, w_191, tyX0_ok, nmX0, by decide +kernel, Or.inl rfl⟩
theorem dX0_keep_16 : decode cX0_keep 16 = .ok (.aload_n 0, 1) := by decide +kernel
theorem dX0_keep_17 : decode cX0_keep 17 = .ok (.getfield 12, 3) := by decide +kernel
theorem dX0_keep_20 : decode cX0_keep 20 = .ok (.getfield 25, 3) := by decide +kernel
theorem dX0_keep_23 : decode cX0_keep 23 = .ok (.ireturn, 1) := by decide +kernel
theorem dX10_fault_0 : decode cX10_fault 0 = .ok (.aload_n 0, 1) := by decide +kernel
theorem dX10_fault_1 : decode cX10_fault 1 = .ok (.getfield 12, 3) := by decide +kernel
theorem w_379 : Cond.fieldLink "QuarterWalks" 12 "QuarterWalks" "tape" "LQuarterWalks$Tape;" ∈ wAll := wIn 379 (by decide +kernel) (by decide +kernel)
theorem fl_X10_12 : fl RX10 12 11 0 := ⟨RX10, TX10, 10, rfl, inA_X10, by decide, w_379⟩
theorem dX10_fault_4 : decode cX10_fault 4 = .ok (.invokevirtual 91, 3) := by decide +kernel
theorem w_432 : Cond.methodLink "QuarterWalks" 91 yX7_read ∈ wAll := wIn 432 (by decide +kernel) (by decide +kernel)
theorem w_434 : Cond.selects yX7_read.cls yX7_read yX7_read ∈ wAll := wIn 434 (by decide +kernel) (by decide +kernel)
theorem w_97 : Cond.initialized "QuarterWalks$Tape" ∈ wAll := wIn 97 (by decide +kernel) (by decide +kernel)
theorem mk_X7_read : mk yX7_read 0 := ⟨by decide +kernel, w_97⟩
theorem w_433 : Cond.instanceMethod yX7_read ∈ wAll := wIn 433 (by decide +kernel) (by decide +kernel)
theorem w_435 : Cond.code yX7_read cX7_read 3 (some .int) ∈ wAll := wIn 435 (by decide +kernel) (by decide +kernel)
theorem dX10_fault_7 : decode cX10_fault 7 = .ok (.ireturn, 1) := by decide +kernel
theorem dX10_tell_0 : decode cX10_tell 0 = .ok (.aload_n 0, 1) := by decide +kernel
theorem dX10_tell_1 : decode cX10_tell 1 = .ok (.getfield 12, 3) := by decide +kernel
theorem dX10_tell_4 : decode cX10_tell 4 = .ok (.invokevirtual 91, 3) := by decide +kernel
theorem dX10_tell_7 : decode cX10_tell 7 = .ok (.iconst (-1), 1) := by decide +kernel
theorem dX10_tell_8 : decode cX10_tell 8 = .ok (.if_icmp .eq 9, 3) := by decide +kernel
theorem dX10_tell_11 : decode cX10_tell 11 = .ok (.aload_n 0, 1) := by decide +kernel
theorem dX10_tell_12 : decode cX10_tell 12 = .ok (.iconst 0, 1) := by decide +kernel
theorem dX10_tell_13 : decode cX10_tell 13 = .ok (.invokevirtual 95, 3) := by decide +kernel
theorem dX10_tell_16 : decode cX10_tell 16 = .ok (.ireturn, 1) := by decide +kernel
theorem dX10_undo_0 : decode cX10_undo 0 = .ok (.aload_n 0, 1) := by decide +kernel
theorem dX10_undo_1 : decode cX10_undo 1 = .ok (.getfield 19, 3) := by decide +kernel
theorem dX10_undo_4 : decode cX10_undo 4 = .ok (.invokevirtual 358, 3) := by decide +kernel
theorem w_1289 : Cond.methodLink "QuarterWalks" 358 yX0_takeBack ∈ wAll := wIn 1289 (by decide +kernel) (by decide +kernel)
theorem w_1291 : Cond.selects yX0_takeBack.cls yX0_takeBack yX0_takeBack ∈ wAll := wIn 1291 (by decide +kernel) (by decide +kernel)
theorem mk_X0_takeBack : mk yX0_takeBack 0 := ⟨by decide +kernel, w_98⟩
theorem w_1290 : Cond.instanceMethod yX0_takeBack ∈ wAll := wIn 1290 (by decide +kernel) (by decide +kernel)
theorem w_1292 : Cond.code yX0_takeBack cX0_takeBack 1 (some .int) ∈ wAll := wIn 1292 (by decide +kernel) (by decide +kernel)
theorem dX10_undo_7 : decode cX10_undo 7 = .ok (.ireturn, 1) := by decide +kernel
theorem dX10_back_0 : decode cX10_back 0 = .ok (.aload_n 0, 1) := by decide +kernel
theorem dX10_back_1 : decode cX10_back 1 = .ok (.getfield 19, 3) := by decide +kernel
theorem dX10_back_4 : decode cX10_back 4 = .ok (.invokevirtual 364, 3) := by decide +kernel
theorem w_1305 : Cond.methodLink "QuarterWalks" 364 yX0_restore ∈ wAll := wIn 1305 (by decide +kernel) (by decide +kernel)
theorem w_1307 : Cond.selects yX0_restore.cls yX0_restore yX0_restore ∈ wAll := wIn 1307 (by decide +kernel) (by decide +kernel)
theorem mk_X0_restore : mk yX0_restore 0 := ⟨by decide +kernel, w_98⟩
theorem w_1306 : Cond.instanceMethod yX0_restore ∈ wAll := wIn 1306 (by decide +kernel) (by decide +kernel)
theorem w_1308 : Cond.code yX0_restore cX0_restore 1 (some .int) ∈ wAll := wIn 1308 (by decide +kernel) (by decide +kernel)
theorem dX10_back_7 : decode cX10_back 7 = .ok (.ireturn, 1) := by decide +kernel
theorem dX10_image_0 : decode cX10_image 0 = .ok (.aload_n 0, 1) := by decide +kernel
theorem dX10_image_1 : decode cX10_image 1 = .ok (.getfield 19, 3) := by decide +kernel
theorem dX10_image_4 : decode cX10_image 4 = .ok (.invokevirtual 361, 3) := by decide +kernel
theorem w_1297 : Cond.methodLink "QuarterWalks" 361 yX0_keep ∈ wAll := wIn 1297 (by decide +kernel) (by decide +kernel)
theorem w_1299 : Cond.selects yX0_keep.cls yX0_keep yX0_keep ∈ wAll := wIn 1299 (by decide +kernel) (by decide +kernel)
theorem mk_X0_keep : mk yX0_keep 0 := ⟨by decide +kernel, w_98⟩
theorem w_1298 : Cond.instanceMethod yX0_keep ∈ wAll := wIn 1298 (by decide +kernel) (by decide +kernel)
theorem w_1300 : Cond.code yX0_keep cX0_keep 1 (some .int) ∈ wAll := wIn 1300 (by decide +kernel) (by decide +kernel)
theorem dX10_image_7 : decode cX10_image 7 = .ok (.ireturn, 1) := by decide +kernel
theorem dX10_end_0 : decode cX10_end 0 = .ok (.iload_n 1, 1) := by decide +kernel
theorem dX10_end_1 : decode cX10_end 1 = .ok (.iconst 0, 1) := by decide +kernel
theorem dX10_end_2 : decode cX10_end 2 = .ok (.aload_n 0, 1) := by decide +kernel
theorem dX10_end_3 : decode cX10_end 3 = .ok (.getfield 12, 3) := by decide +kernel
theorem dX10_end_6 : decode cX10_end 6 = .ok (.getfield 79, 3) := by decide +kernel
theorem w_138 : Cond.fieldLink "QuarterWalks" 79 "QuarterWalks$Tape" "length" "I" ∈ wAll := wIn 138 (by decide +kernel) (by decide +kernel)
theorem fl_X10_79 : fl RX10 79 8 0 := ⟨RX7, TX7, 7, rfl, inA_X7, by decide, w_138⟩
theorem dX10_end_9 : decode cX10_end 9 = .ok (.invokestatic 87, 3) := by decide +kernel
theorem dX10_end_12 : decode cX10_end 12 = .ok (.ifCond .ne 5, 3) := by decide +kernel
theorem dX10_end_17 : decode cX10_end 17 = .ok (.aload_n 0, 1) := by decide +kernel
theorem dX10_end_18 : decode cX10_end 18 = .ok (.getfield 12, 3) := by decide +kernel
theorem dX10_end_21 : decode cX10_end 21 = .ok (.iload_n 1, 1) := by decide +kernel
theorem dX10_end_22 : decode cX10_end 22 = .ok (.putfield 79, 3) := by decide +kernel
theorem flw_X10_79 : flw RX10 79 8 0 (.int) := ⟨RX7, TX7, 7, tyX7, rfl, inA_X7, by decide, w_138, tyX7_ok, nmX7, by decide +kernel, Or.inl rfl⟩
theorem dX10_end_25 : decode cX10_end 25 = .ok (.iconst 1, 1) := by decide +kernel
theorem dX10_end_26 : decode cX10_end 26 = .ok (.ireturn, 1) := by decide +kernel
theorem dX10_end_15 : decode cX10_end 15 = .ok (.iconst 0, 1) := by decide +kernel
theorem dX10_end_16 : decode cX10_end 16 = .ok (.ireturn, 1) := by decide +kernel
theorem dX10_status_0 : decode cX10_status 0 = .ok (.iload_n 1, 1) := by decide +kernel
theorem dX10_status_1 : decode cX10_status 1 = .ok (.iconst 0, 1) := by decide +kernel
theorem dX10_status_2 : decode cX10_status 2 = .ok (.aload_n 0, 1) := by decide +kernel
theorem dX10_status_3 : decode cX10_status 3 = .ok (.getfield 60, 3) := by decide +kernel
theorem dX10_status_6 : decode cX10_status 6 = .ok (.arraylength, 1) := by decide +kernel
theorem dX10_status_7 : decode cX10_status 7 = .ok (.iconst 1, 1) := by decide +kernel
theorem dX10_status_8 : decode cX10_status 8 = .ok (.isub, 1) := by decide +kernel
theorem dX10_status_9 : decode cX10_status 9 = .ok (.invokestatic 87, 3) := by decide +kernel
theorem dX10_status_12 : decode cX10_status 12 = .ok (.ifCond .eq 12, 3) := by decide +kernel
theorem dX10_status_24 : decode cX10_status 24 = .ok (.iconst (-1), 1) := by decide +kernel
theorem dX10_status_25 : decode cX10_status 25 = .ok (.ireturn, 1) := by decide +kernel
theorem dX10_status_15 : decode cX10_status 15 = .ok (.aload_n 0, 1) := by decide +kernel
theorem dX10_status_16 : decode cX10_status 16 = .ok (.getfield 60, 3) := by decide +kernel
theorem dX10_status_19 : decode cX10_status 19 = .ok (.iload_n 1, 1) := by decide +kernel
theorem dX10_status_20 : decode cX10_status 20 = .ok (.iaload, 1) := by decide +kernel
theorem dX10_status_21 : decode cX10_status 21 = .ok (.goto 4, 3) := by decide +kernel
theorem dX10_most_0 : decode cX10_most 0 = .ok (.iload_n 1, 1) := by decide +kernel
theorem dX10_most_1 : decode cX10_most 1 = .ok (.iconst 0, 1) := by decide +kernel
theorem dX10_most_2 : decode cX10_most 2 = .ok (.iconst 4, 1) := by decide +kernel
theorem dX10_most_3 : decode cX10_most 3 = .ok (.invokestatic 87, 3) := by decide +kernel
theorem dX10_most_6 : decode cX10_most 6 = .ok (.ifCond .ne 5, 3) := by decide +kernel
theorem dX10_most_11 : decode cX10_most 11 = .ok (.iload_n 1, 1) := by decide +kernel
theorem dX10_most_12 : decode cX10_most 12 = .ok (.iconst 3, 1) := by decide +kernel
theorem dX10_most_13 : decode cX10_most 13 = .ok (.if_icmp .ne 8, 3) := by decide +kernel
theorem dX10_most_21 : decode cX10_most 21 = .ok (.aload_n 0, 1) := by decide +kernel
theorem dX10_most_22 : decode cX10_most 22 = .ok (.getfield 19, 3) := by decide +kernel
theorem dX10_most_25 : decode cX10_most 25 = .ok (.invokevirtual 370, 3) := by decide +kernel
theorem dX10_most_28 : decode cX10_most 28 = .ok (.ifCond .ne 5, 3) := by decide +kernel
theorem dX10_most_31 : decode cX10_most 31 = .ok (.iconst (-1), 1) := by decide +kernel
theorem dX10_most_32 : decode cX10_most 32 = .ok (.ireturn, 1) := by decide +kernel
theorem dX10_most_16 : decode cX10_most 16 = .ok (.aload_n 0, 1) := by decide +kernel
theorem dX10_most_17 : decode cX10_most 17 = .ok (.invokevirtual 367, 3) := by decide +kernel
theorem w_1317 : Cond.methodLink "QuarterWalks" 367 yX10_unlikeSets ∈ wAll := wIn 1317 (by decide +kernel) (by decide +kernel)
theorem w_32 : Cond.selects yX10_unlikeSets.cls yX10_unlikeSets yX10_unlikeSets ∈ wAll := wIn 32 (by decide +kernel) (by decide +kernel)
theorem mk_X10_unlikeSets : mk yX10_unlikeSets 0 := ⟨by decide +kernel, w_96⟩
theorem w_1319 : Cond.instanceMethod yX10_unlikeSets ∈ wAll := wIn 1319 (by decide +kernel) (by decide +kernel)
theorem w_1320 : Cond.code yX10_unlikeSets cX10_unlikeSets 3 (some .int) ∈ wAll := wIn 1320 (by decide +kernel) (by decide +kernel)
theorem dX10_most_20 : decode cX10_most 20 = .ok (.ireturn, 1) := by decide +kernel
theorem dX10_most_9 : decode cX10_most 9 = .ok (.iconst (-1), 1) := by decide +kernel
theorem dX10_most_10 : decode cX10_most 10 = .ok (.ireturn, 1) := by decide +kernel
theorem dX10_count_0 : decode cX10_count 0 = .ok (.iload_n 1, 1) := by decide +kernel
theorem dX10_count_1 : decode cX10_count 1 = .ok (.tableswitch 51 0 2 #[27, 35, 43], 27) := by decide +kernel
theorem sw_0_2 (p : Int32) : p = 0 ∨ p = 1 ∨ p = 2 ∨ (p.toInt < 0 ∨ 2 < p.toInt) := by
  have h : p.toInt = 0 ∨ p.toInt = 1 ∨ p.toInt = 2 ∨ (p.toInt < 0 ∨ 2 < p.toInt) := by omega
  rcases h with h | h | h | h
  · exact Or.inl (Int32.toInt_inj.mp (h.trans rfl))
  · exact Or.inr (Or.inl (Int32.toInt_inj.mp (h.trans rfl)))
  · exact Or.inr (Or.inr (Or.inl (Int32.toInt_inj.mp (h.trans rfl))))
  · exact Or.inr (Or.inr (Or.inr (h)))
theorem dX10_count_28 : decode cX10_count 28 = .ok (.aload_n 0, 1) := by decide +kernel
theorem dX10_count_29 : decode cX10_count 29 = .ok (.getfield 12, 3) := by decide +kernel
theorem dX10_count_32 : decode cX10_count 32 = .ok (.getfield 79, 3) := by decide +kernel
theorem dX10_count_35 : decode cX10_count 35 = .ok (.ireturn, 1) := by decide +kernel
theorem dX10_count_36 : decode cX10_count 36 = .ok (.aload_n 0, 1) := by decide +kernel
theorem dX10_count_37 : decode cX10_count 37 = .ok (.getfield 19, 3) := by decide +kernel
theorem dX10_count_40 : decode cX10_count 40 = .ok (.getfield 379, 3) := by decide +kernel
theorem w_187 : Cond.fieldLink "QuarterWalks" 379 "QuarterWalks$Book" "past" "I" ∈ wAll := wIn 187 (by decide +kernel) (by decide +kernel)
theorem fl_X10_379 : fl RX10 379 1 0 := ⟨RX0, TX0, 6, rfl, inA_X0, by decide, w_187⟩
theorem dX10_count_43 : decode cX10_count 43 = .ok (.ireturn, 1) := by decide +kernel
theorem dX10_count_44 : decode cX10_count 44 = .ok (.aload_n 0, 1) := by decide +kernel
theorem dX10_count_45 : decode cX10_count 45 = .ok (.getfield 19, 3) := by decide +kernel
theorem dX10_count_48 : decode cX10_count 48 = .ok (.invokevirtual 370, 3) := by decide +kernel
theorem dX10_count_51 : decode cX10_count 51 = .ok (.ireturn, 1) := by decide +kernel
theorem dX10_count_52 : decode cX10_count 52 = .ok (.iconst (-1), 1) := by decide +kernel
theorem dX10_count_53 : decode cX10_count 53 = .ok (.ireturn, 1) := by decide +kernel
theorem dX7_filled_0 : decode cX7_filled 0 = .ok (.iconst 0, 1) := by decide +kernel
theorem dX7_filled_1 : decode cX7_filled 1 = .ok (.istore_n 1, 1) := by decide +kernel
theorem dX7_filled_2 : decode cX7_filled 2 = .ok (.bipush 24, 2) := by decide +kernel
theorem dX7_filled_4 : decode cX7_filled 4 = .ok (.istore_n 2, 1) := by decide +kernel
theorem dX7_filled_5 : decode cX7_filled 5 = .ok (.iload_n 2, 1) := by decide +kernel
theorem dX7_filled_6 : decode cX7_filled 6 = .ok (.ifCond .lt 22, 3) := by decide +kernel
theorem dX7_filled_9 : decode cX7_filled 9 = .ok (.iload_n 0, 1) := by decide +kernel
theorem dX7_filled_10 : decode cX7_filled 10 = .ok (.iload_n 2, 1) := by decide +kernel
theorem dX7_filled_11 : decode cX7_filled 11 = .ok (.iushr, 1) := by decide +kernel
theorem dX7_filled_12 : decode cX7_filled 12 = .ok (.sipush 255, 3) := by decide +kernel
theorem dX7_filled_15 : decode cX7_filled 15 = .ok (.iand, 1) := by decide +kernel
theorem dX7_filled_16 : decode cX7_filled 16 = .ok (.ifCond .eq 6, 3) := by decide +kernel
theorem dX7_filled_22 : decode cX7_filled 22 = .ok (.iinc 2 (-8), 3) := by decide +kernel
theorem dX7_filled_25 : decode cX7_filled 25 = .ok (.goto (-20), 3) := by decide +kernel
theorem dX7_filled_28 : decode cX7_filled 28 = .ok (.iload_n 1, 1) := by decide +kernel
theorem dX7_filled_29 : decode cX7_filled 29 = .ok (.ireturn, 1) := by decide +kernel
theorem dX7_filled_19 : decode cX7_filled 19 = .ok (.iinc 1 1, 3) := by decide +kernel
theorem dX11_bytesOf_0 : decode cX11_bytesOf 0 = .ok (.iconst 0, 1) := by decide +kernel
theorem dX11_bytesOf_1 : decode cX11_bytesOf 1 = .ok (.istore_n 1, 1) := by decide +kernel
theorem dX11_bytesOf_2 : decode cX11_bytesOf 2 = .ok (.iconst 0, 1) := by decide +kernel
theorem dX11_bytesOf_3 : decode cX11_bytesOf 3 = .ok (.istore_n 2, 1) := by decide +kernel
theorem dX11_bytesOf_4 : decode cX11_bytesOf 4 = .ok (.iload_n 2, 1) := by decide +kernel
theorem dX11_bytesOf_5 : decode cX11_bytesOf 5 = .ok (.iconst 4, 1) := by decide +kernel
theorem dX11_bytesOf_6 : decode cX11_bytesOf 6 = .ok (.if_icmp .ge 30, 3) := by decide +kernel
theorem dX11_bytesOf_9 : decode cX11_bytesOf 9 = .ok (.iload_n 1, 1) := by decide +kernel
theorem dX11_bytesOf_10 : decode cX11_bytesOf 10 = .ok (.iload_n 0, 1) := by decide +kernel
theorem dX11_bytesOf_11 : decode cX11_bytesOf 11 = .ok (.bipush 8, 2) := by decide +kernel
theorem dX11_bytesOf_13 : decode cX11_bytesOf 13 = .ok (.iload_n 2, 1) := by decide +kernel
theorem dX11_bytesOf_14 : decode cX11_bytesOf 14 = .ok (.imul, 1) := by decide +kernel
theorem dX11_bytesOf_15 : decode cX11_bytesOf 15 = .ok (.ishr, 1) := by decide +kernel
theorem dX11_bytesOf_16 : decode cX11_bytesOf 16 = .ok (.sipush 255, 3) := by decide +kernel
theorem dX11_bytesOf_19 : decode cX11_bytesOf 19 = .ok (.iand, 1) := by decide +kernel
theorem dX11_bytesOf_20 : decode cX11_bytesOf 20 = .ok (.ifCond .ne 7, 3) := by decide +kernel
theorem dX11_bytesOf_27 : decode cX11_bytesOf 27 = .ok (.iconst 1, 1) := by decide +kernel
theorem dX11_bytesOf_28 : decode cX11_bytesOf 28 = .ok (.iadd, 1) := by decide +kernel
theorem dX11_bytesOf_29 : decode cX11_bytesOf 29 = .ok (.istore_n 1, 1) := by decide +kernel
theorem dX11_bytesOf_30 : decode cX11_bytesOf 30 = .ok (.iinc 2 1, 3) := by decide +kernel
theorem dX11_bytesOf_33 : decode cX11_bytesOf 33 = .ok (.goto (-29), 3) := by decide +kernel
theorem dX11_bytesOf_36 : decode cX11_bytesOf 36 = .ok (.iload_n 1, 1) := by decide +kernel
theorem dX11_bytesOf_37 : decode cX11_bytesOf 37 = .ok (.ireturn, 1) := by decide +kernel
theorem dX11_bytesOf_23 : decode cX11_bytesOf 23 = .ok (.iconst 0, 1) := by decide +kernel
theorem dX11_bytesOf_24 : decode cX11_bytesOf 24 = .ok (.goto 4, 3) := by decide +kernel
theorem dX7_append_0 : decode cX7_append 0 = .ok (.bipush 24, 2) := by decide +kernel
theorem dX7_append_2 : decode cX7_append 2 = .ok (.istore_n 2, 1) := by decide +kernel
theorem dX7_append_3 : decode cX7_append 3 = .ok (.iload_n 2, 1) := by decide +kernel
theorem dX7_append_4 : decode cX7_append 4 = .ok (.ifCond .lt 51, 3) := by decide +kernel
theorem dX7_append_7 : decode cX7_append 7 = .ok (.iload_n 1, 1) := by decide +kernel
theorem dX7_append_8 : decode cX7_append 8 = .ok (.iload_n 2, 1) := by decide +kernel
theorem dX7_append_9 : decode cX7_append 9 = .ok (.iushr, 1) := by decide +kernel
theorem dX7_append_10 : decode cX7_append 10 = .ok (.sipush 255, 3) := by decide +kernel
theorem dX7_append_13 : decode cX7_append 13 = .ok (.iand, 1) := by decide +kernel
theorem dX7_append_14 : decode cX7_append 14 = .ok (.istore_n 3, 1) := by decide +kernel
theorem dX7_append_15 : decode cX7_append 15 = .ok (.iload_n 3, 1) := by decide +kernel
theorem dX7_append_16 : decode cX7_append 16 = .ok (.ifCond .eq 33, 3) := by decide +kernel
theorem dX7_append_49 : decode cX7_append 49 = .ok (.iinc 2 (-8), 3) := by decide +kernel
theorem dX7_append_52 : decode cX7_append 52 = .ok (.goto (-49), 3) := by decide +kernel
theorem dX7_append_55 : decode cX7_append 55 = .ok (.return_, 1) := by decide +kernel
theorem dX7_append_19 : decode cX7_append 19 = .ok (.aload_n 0, 1) := by decide +kernel
theorem dX7_append_20 : decode cX7_append 20 = .ok (.getfield 18, 3) := by decide +kernel
theorem dX7_append_23 : decode cX7_append 23 = .ok (.sipush 200, 3) := by decide +kernel
theorem dX7_append_26 : decode cX7_append 26 = .ok (.if_icmp .ge 23, 3) := by decide +kernel
theorem dX7_append_29 : decode cX7_append 29 = .ok (.aload_n 0, 1) := by decide +kernel
theorem dX7_append_30 : decode cX7_append 30 = .ok (.getfield 11, 3) := by decide +kernel
theorem w_140 : Cond.fieldLink "QuarterWalks$Tape" 11 "QuarterWalks$Tape" "bytes" "[I" ∈ wAll := wIn 140 (by decide +kernel) (by decide +kernel)
theorem fl_X7_11 : fl RX7 11 8 1 := ⟨RX7, TX7, 7, rfl, inA_X7, by decide, w_140⟩
theorem dX7_append_33 : decode cX7_append 33 = .ok (.aload_n 0, 1) := by decide +kernel
theorem dX7_append_34 : decode cX7_append 34 = .ok (.getfield 18, 3) := by decide +kernel
theorem dX7_append_37 : decode cX7_append 37 = .ok (.iload_n 3, 1) := by decide +kernel
theorem dX7_append_38 : decode cX7_append 38 = .ok (.iastore, 1) := by decide +kernel
theorem dX7_append_39 : decode cX7_append 39 = .ok (.aload_n 0, 1) := by decide +kernel
theorem dX7_append_40 : decode cX7_append 40 = .ok (.dup, 1) := by decide +kernel
theorem dX7_append_41 : decode cX7_append 41 = .ok (.getfield 18, 3) := by decide +kernel
theorem dX7_append_44 : decode cX7_append 44 = .ok (.iconst 1, 1) := by decide +kernel
theorem dX7_append_45 : decode cX7_append 45 = .ok (.iadd, 1) := by decide +kernel
theorem dX7_append_46 : decode cX7_append 46 = .ok (.putfield 18, 3) := by decide +kernel
theorem flw_X7_18 : flw RX7 18 8 0 (.int) := ⟨RX7, TX7, 7, tyX7, rfl, inA_X7, by decide, w_139, tyX7_ok, nmX7, by decide +kernel, Or.inl rfl⟩
theorem dX10_feed_0 : decode cX10_feed 0 = .ok (.iload_n 1, 1) := by decide +kernel
theorem dX10_feed_1 : decode cX10_feed 1 = .ok (.invokestatic 75, 3) := by decide +kernel
theorem w_414 : Cond.methodLink "QuarterWalks" 75 yX7_filled ∈ wAll := wIn 414 (by decide +kernel) (by decide +kernel)
theorem mk_X7_filled : mk yX7_filled 1 := ⟨by decide +kernel, w_97⟩
theorem w_415 : Cond.static yX7_filled ∈ wAll := wIn 415 (by decide +kernel) (by decide +kernel)
theorem w_416 : Cond.code yX7_filled cX7_filled 3 (some .int) ∈ wAll := wIn 416 (by decide +kernel) (by decide +kernel)
theorem dX10_feed_4 : decode cX10_feed 4 = .ok (.iload_n 2, 1) := by decide +kernel
theorem dX10_feed_5 : decode cX10_feed 5 = .ok (.invokestatic 75, 3) := by decide +kernel
theorem dX10_feed_8 : decode cX10_feed 8 = .ok (.iadd, 1) := by decide +kernel
theorem dX10_feed_9 : decode cX10_feed 9 = .ok (.iload_n 3, 1) := by decide +kernel
theorem dX10_feed_10 : decode cX10_feed 10 = .ok (.invokestatic 75, 3) := by decide +kernel
theorem dX10_feed_13 : decode cX10_feed 13 = .ok (.iadd, 1) := by decide +kernel
theorem dX10_feed_14 : decode cX10_feed 14 = .ok (.iload 4, 2) := by decide +kernel
theorem dX10_feed_16 : decode cX10_feed 16 = .ok (.invokestatic 75, 3) := by decide +kernel
theorem dX10_feed_19 : decode cX10_feed 19 = .ok (.iadd, 1) := by decide +kernel
theorem dX10_feed_20 : decode cX10_feed 20 = .ok (.iload 5, 2) := by decide +kernel
theorem dX10_feed_22 : decode cX10_feed 22 = .ok (.invokestatic 75, 3) := by decide +kernel
theorem dX10_feed_25 : decode cX10_feed 25 = .ok (.iadd, 1) := by decide +kernel
theorem dX10_feed_26 : decode cX10_feed 26 = .ok (.istore 6, 2) := by decide +kernel
theorem dX10_feed_28 : decode cX10_feed 28 = .ok (.aload_n 0, 1) := by decide +kernel
theorem dX10_feed_29 : decode cX10_feed 29 = .ok (.getfield 12, 3) := by decide +kernel
theorem dX10_feed_32 : decode cX10_feed 32 = .ok (.getfield 79, 3) := by decide +kernel
theorem dX10_feed_35 : decode cX10_feed 35 = .ok (.iload 6, 2) := by decide +kernel
theorem dX10_feed_37 : decode cX10_feed 37 = .ok (.iadd, 1) := by decide +kernel
theorem dX10_feed_38 : decode cX10_feed 38 = .ok (.sipush 200, 3) := by decide +kernel
theorem dX10_feed_41 : decode cX10_feed 41 = .ok (.if_icmp .le 5, 3) := by decide +kernel
theorem dX10_feed_46 : decode cX10_feed 46 = .ok (.aload_n 0, 1) := by decide +kernel
theorem dX10_feed_47 : decode cX10_feed 47 = .ok (.getfield 12, 3) := by decide +kernel
theorem dX10_feed_50 : decode cX10_feed 50 = .ok (.iload_n 1, 1) := by decide +kernel
theorem dX10_feed_51 : decode cX10_feed 51 = .ok (.invokevirtual 83, 3) := by decide +kernel
theorem w_417 : Cond.methodLink "QuarterWalks" 83 yX7_append ∈ wAll := wIn 417 (by decide +kernel) (by decide +kernel)
theorem w_419 : Cond.selects yX7_append.cls yX7_append yX7_append ∈ wAll := wIn 419 (by decide +kernel) (by decide +kernel)
theorem mk_X7_append : mk yX7_append 1 := ⟨by decide +kernel, w_97⟩
theorem w_418 : Cond.instanceMethod yX7_append ∈ wAll := wIn 418 (by decide +kernel) (by decide +kernel)
theorem w_420 : Cond.code yX7_append cX7_append 4 none ∈ wAll := wIn 420 (by decide +kernel) (by decide +kernel)
theorem dX10_feed_54 : decode cX10_feed 54 = .ok (.aload_n 0, 1) := by decide +kernel
theorem dX10_feed_55 : decode cX10_feed 55 = .ok (.getfield 12, 3) := by decide +kernel
theorem dX10_feed_58 : decode cX10_feed 58 = .ok (.iload_n 2, 1) := by decide +kernel
theorem dX10_feed_59 : decode cX10_feed 59 = .ok (.invokevirtual 83, 3) := by decide +kernel
theorem dX10_feed_62 : decode cX10_feed 62 = .ok (.aload_n 0, 1) := by decide +kernel
theorem dX10_feed_63 : decode cX10_feed 63 = .ok (.getfield 12, 3) := by decide +kernel
theorem dX10_feed_66 : decode cX10_feed 66 = .ok (.iload_n 3, 1) := by decide +kernel
theorem dX10_feed_67 : decode cX10_feed 67 = .ok (.invokevirtual 83, 3) := by decide +kernel
theorem dX10_feed_70 : decode cX10_feed 70 = .ok (.aload_n 0, 1) := by decide +kernel
theorem dX10_feed_71 : decode cX10_feed 71 = .ok (.getfield 12, 3) := by decide +kernel
theorem dX10_feed_74 : decode cX10_feed 74 = .ok (.iload 4, 2) := by decide +kernel
theorem dX10_feed_76 : decode cX10_feed 76 = .ok (.invokevirtual 83, 3) := by decide +kernel
theorem dX10_feed_79 : decode cX10_feed 79 = .ok (.aload_n 0, 1) := by decide +kernel
theorem dX10_feed_80 : decode cX10_feed 80 = .ok (.getfield 12, 3) := by decide +kernel
theorem dX10_feed_83 : decode cX10_feed 83 = .ok (.iload 5, 2) := by decide +kernel
theorem dX10_feed_85 : decode cX10_feed 85 = .ok (.invokevirtual 83, 3) := by decide +kernel
theorem dX10_feed_88 : decode cX10_feed 88 = .ok (.aload_n 0, 1) := by decide +kernel
theorem dX10_feed_89 : decode cX10_feed 89 = .ok (.getfield 12, 3) := by decide +kernel
theorem dX10_feed_92 : decode cX10_feed 92 = .ok (.getfield 79, 3) := by decide +kernel
theorem dX10_feed_95 : decode cX10_feed 95 = .ok (.ireturn, 1) := by decide +kernel
theorem dX11_brings_0 : decode cX11_brings 0 = .ok (.bipush 24, 2) := by decide +kernel
theorem dX11_brings_2 : decode cX11_brings 2 = .ok (.istore_n 2, 1) := by decide +kernel
theorem dX11_brings_3 : decode cX11_brings 3 = .ok (.iload_n 2, 1) := by decide +kernel
theorem dX11_brings_4 : decode cX11_brings 4 = .ok (.ifCond .lt 45, 3) := by decide +kernel
theorem dX11_brings_7 : decode cX11_brings 7 = .ok (.iload_n 1, 1) := by decide +kernel
theorem dX11_brings_8 : decode cX11_brings 8 = .ok (.iload_n 2, 1) := by decide +kernel
theorem dX11_brings_9 : decode cX11_brings 9 = .ok (.ishr, 1) := by decide +kernel
theorem dX11_brings_10 : decode cX11_brings 10 = .ok (.sipush 255, 3) := by decide +kernel
theorem dX11_brings_13 : decode cX11_brings 13 = .ok (.iand, 1) := by decide +kernel
theorem dX11_brings_14 : decode cX11_brings 14 = .ok (.istore_n 3, 1) := by decide +kernel
theorem dX11_brings_15 : decode cX11_brings 15 = .ok (.iload_n 3, 1) := by decide +kernel
theorem dX11_brings_16 : decode cX11_brings 16 = .ok (.ifCond .ne 6, 3) := by decide +kernel
theorem dX11_brings_22 : decode cX11_brings 22 = .ok (.aload_n 0, 1) := by decide +kernel
theorem dX11_brings_23 : decode cX11_brings 23 = .ok (.getfield 9, 3) := by decide +kernel
theorem w_1434 : Cond.fieldLink "QuarterWalksModel" 9 "QuarterWalksModel" "tape" "[B" ∈ wAll := wIn 1434 (by decide +kernel) (by decide +kernel)
theorem fl_X11_9 : fl RX11 9 12 1 := ⟨RX11, TX11, 32, rfl, inA_X11, by decide, w_1434⟩
theorem dX11_brings_26 : decode cX11_brings 26 = .ok (.aload_n 0, 1) := by decide +kernel
theorem dX11_brings_27 : decode cX11_brings 27 = .ok (.getfield 79, 3) := by decide +kernel
theorem dX11_brings_30 : decode cX11_brings 30 = .ok (.iload_n 3, 1) := by decide +kernel
theorem dX11_brings_31 : decode cX11_brings 31 = .ok (.i2b, 1) := by decide +kernel
theorem dX11_brings_32 : decode cX11_brings 32 = .ok (.bastore, 1) := by decide +kernel
theorem dX11_brings_33 : decode cX11_brings 33 = .ok (.aload_n 0, 1) := by decide +kernel
theorem dX11_brings_34 : decode cX11_brings 34 = .ok (.dup, 1) := by decide +kernel
theorem dX11_brings_35 : decode cX11_brings 35 = .ok (.getfield 79, 3) := by decide +kernel
theorem dX11_brings_38 : decode cX11_brings 38 = .ok (.iconst 1, 1) := by decide +kernel
theorem dX11_brings_39 : decode cX11_brings 39 = .ok (.iadd, 1) := by decide +kernel
theorem dX11_brings_40 : decode cX11_brings 40 = .ok (.putfield 79, 3) := by decide +kernel
theorem dX11_brings_43 : decode cX11_brings 43 = .ok (.iinc 2 (-8), 3) := by decide +kernel
theorem dX11_brings_46 : decode cX11_brings 46 = .ok (.goto (-43), 3) := by decide +kernel
theorem dX11_brings_49 : decode cX11_brings 49 = .ok (.return_, 1) := by decide +kernel
theorem dX11_brings_19 : decode cX11_brings 19 = .ok (.goto 24, 3) := by decide +kernel
theorem dX11_feed_0 : decode cX11_feed 0 = .ok (.aload_n 0, 1) := by decide +kernel
theorem dX11_feed_1 : decode cX11_feed 1 = .ok (.iconst 0, 1) := by decide +kernel
theorem dX11_feed_2 : decode cX11_feed 2 = .ok (.putfield 75, 3) := by decide +kernel
theorem dX11_feed_5 : decode cX11_feed 5 = .ok (.aload_n 0, 1) := by decide +kernel
theorem dX11_feed_6 : decode cX11_feed 6 = .ok (.getfield 79, 3) := by decide +kernel
theorem dX11_feed_9 : decode cX11_feed 9 = .ok (.iload_n 1, 1) := by decide +kernel
theorem dX11_feed_10 : decode cX11_feed 10 = .ok (.invokestatic 82, 3) := by decide +kernel
theorem w_1538 : Cond.methodLink "QuarterWalksModel" 82 yX11_bytesOf ∈ wAll := wIn 1538 (by decide +kernel) (by decide +kernel)
theorem mk_X11_bytesOf : mk yX11_bytesOf 1 := ⟨by decide +kernel, w_110⟩
theorem w_1539 : Cond.static yX11_bytesOf ∈ wAll := wIn 1539 (by decide +kernel) (by decide +kernel)
theorem w_1540 : Cond.code yX11_bytesOf cX11_bytesOf 3 (some .int) ∈ wAll := wIn 1540 (by decide +kernel) (by decide +kernel)
theorem dX11_feed_13 : decode cX11_feed 13 = .ok (.iadd, 1) := by decide +kernel
theorem dX11_feed_14 : decode cX11_feed 14 = .ok (.iload_n 2, 1) := by decide +kernel
theorem dX11_feed_15 : decode cX11_feed 15 = .ok (.invokestatic 82, 3) := by decide +kernel
theorem dX11_feed_18 : decode cX11_feed 18 = .ok (.iadd, 1) := by decide +kernel
theorem dX11_feed_19 : decode cX11_feed 19 = .ok (.iload_n 3, 1) := by decide +kernel
theorem dX11_feed_20 : decode cX11_feed 20 = .ok (.invokestatic 82, 3) := by decide +kernel
theorem dX11_feed_23 : decode cX11_feed 23 = .ok (.iadd, 1) := by decide +kernel
theorem dX11_feed_24 : decode cX11_feed 24 = .ok (.iload 4, 2) := by decide +kernel
theorem dX11_feed_26 : decode cX11_feed 26 = .ok (.invokestatic 82, 3) := by decide +kernel
theorem dX11_feed_29 : decode cX11_feed 29 = .ok (.iadd, 1) := by decide +kernel
theorem dX11_feed_30 : decode cX11_feed 30 = .ok (.iload 5, 2) := by decide +kernel
theorem dX11_feed_32 : decode cX11_feed 32 = .ok (.invokestatic 82, 3) := by decide +kernel
theorem dX11_feed_35 : decode cX11_feed 35 = .ok (.iadd, 1) := by decide +kernel
theorem dX11_feed_36 : decode cX11_feed 36 = .ok (.sipush 200, 3) := by decide +kernel
theorem dX11_feed_39 : decode cX11_feed 39 = .ok (.if_icmp .le 5, 3) := by decide +kernel
theorem dX11_feed_44 : decode cX11_feed 44 = .ok (.aload_n 0, 1) := by decide +kernel
theorem dX11_feed_45 : decode cX11_feed 45 = .ok (.iload_n 1, 1) := by decide +kernel
theorem dX11_feed_46 : decode cX11_feed 46 = .ok (.invokevirtual 86, 3) := by decide +kernel
theorem w_1541 : Cond.methodLink "QuarterWalksModel" 86 yX11_brings ∈ wAll := wIn 1541 (by decide +kernel) (by decide +kernel)
theorem w_37 : Cond.selects yX11_brings.cls yX11_brings yX11_brings ∈ wAll := wIn 37 (by decide +kernel) (by decide +kernel)
theorem mk_X11_brings : mk yX11_brings 1 := ⟨by decide +kernel, w_110⟩
theorem w_1543 : Cond.instanceMethod yX11_brings ∈ wAll := wIn 1543 (by decide +kernel) (by decide +kernel)
theorem w_1544 : Cond.code yX11_brings cX11_brings 4 none ∈ wAll := wIn 1544 (by decide +kernel) (by decide +kernel)
theorem dX11_feed_49 : decode cX11_feed 49 = .ok (.aload_n 0, 1) := by decide +kernel
theorem dX11_feed_50 : decode cX11_feed 50 = .ok (.iload_n 2, 1) := by decide +kernel
theorem dX11_feed_51 : decode cX11_feed 51 = .ok (.invokevirtual 86, 3) := by decide +kernel
theorem dX11_feed_54 : decode cX11_feed 54 = .ok (.aload_n 0, 1) := by decide +kernel
theorem dX11_feed_55 : decode cX11_feed 55 = .ok (.iload_n 3, 1) := by decide +kernel
theorem dX11_feed_56 : decode cX11_feed 56 = .ok (.invokevirtual 86, 3) := by decide +kernel
theorem dX11_feed_59 : decode cX11_feed 59 = .ok (.aload_n 0, 1) := by decide +kernel
theorem dX11_feed_60 : decode cX11_feed 60 = .ok (.iload 4, 2) := by decide +kernel
theorem dX11_feed_62 : decode cX11_feed 62 = .ok (.invokevirtual 86, 3) := by decide +kernel
theorem dX11_feed_65 : decode cX11_feed 65 = .ok (.aload_n 0, 1) := by decide +kernel
theorem dX11_feed_66 : decode cX11_feed 66 = .ok (.iload 5, 2) := by decide +kernel
theorem dX11_feed_68 : decode cX11_feed 68 = .ok (.invokevirtual 86, 3) := by decide +kernel
theorem dX11_feed_71 : decode cX11_feed 71 = .ok (.aload_n 0, 1) := by decide +kernel
theorem dX11_feed_72 : decode cX11_feed 72 = .ok (.getfield 79, 3) := by decide +kernel
theorem dX11_feed_75 : decode cX11_feed 75 = .ok (.ireturn, 1) := by decide +kernel
