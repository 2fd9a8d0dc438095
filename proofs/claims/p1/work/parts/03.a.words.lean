theorem dX10_within_0 : decode cX10_within 0 = .ok (.iload_n 0, 1) := by decide +kernel
theorem dX10_within_1 : decode cX10_within 1 = .ok (.iload_n 1, 1) := by decide +kernel
theorem dX10_within_2 : decode cX10_within 2 = .ok (.if_icmp .lt 12, 3) := by decide +kernel
theorem dX10_within_14 : decode cX10_within 14 = .ok (.iconst 0, 1) := by decide +kernel
theorem dX10_within_15 : decode cX10_within 15 = .ok (.ireturn, 1) := by decide +kernel
theorem dX10_within_5 : decode cX10_within 5 = .ok (.iload_n 0, 1) := by decide +kernel
theorem dX10_within_6 : decode cX10_within 6 = .ok (.iload_n 2, 1) := by decide +kernel
theorem dX10_within_7 : decode cX10_within 7 = .ok (.if_icmp .gt 7, 3) := by decide +kernel
theorem dX10_within_10 : decode cX10_within 10 = .ok (.iconst 1, 1) := by decide +kernel
theorem dX10_within_11 : decode cX10_within 11 = .ok (.goto 4, 3) := by decide +kernel
theorem dX11_isIn_0 : decode cX11_isIn 0 = .ok (.lload_n 0, 1) := by decide +kernel
theorem dX11_isIn_1 : decode cX11_isIn 1 = .ok (.lload_n 2, 1) := by decide +kernel
theorem dX11_isIn_2 : decode cX11_isIn 2 = .ok (.lcmp, 1) := by decide +kernel
theorem dX11_isIn_3 : decode cX11_isIn 3 = .ok (.ifCond .lt 14, 3) := by decide +kernel
theorem dX11_isIn_17 : decode cX11_isIn 17 = .ok (.iconst 0, 1) := by decide +kernel
theorem dX11_isIn_18 : decode cX11_isIn 18 = .ok (.ireturn, 1) := by decide +kernel
theorem dX11_isIn_6 : decode cX11_isIn 6 = .ok (.lload_n 0, 1) := by decide +kernel
theorem dX11_isIn_7 : decode cX11_isIn 7 = .ok (.lload 4, 2) := by decide +kernel
theorem dX11_isIn_9 : decode cX11_isIn 9 = .ok (.lcmp, 1) := by decide +kernel
theorem dX11_isIn_10 : decode cX11_isIn 10 = .ok (.ifCond .gt 7, 3) := by decide +kernel
theorem dX11_isIn_13 : decode cX11_isIn 13 = .ok (.iconst 1, 1) := by decide +kernel
theorem dX11_isIn_14 : decode cX11_isIn 14 = .ok (.goto 4, 3) := by decide +kernel
theorem dX0_find_0 : decode cX0_find 0 = .ok (.iload_n 1, 1) := by decide +kernel
theorem dX0_find_1 : decode cX0_find 1 = .ok (.iconst 0, 1) := by decide +kernel
theorem dX0_find_2 : decode cX0_find 2 = .ok (.aload_n 0, 1) := by decide +kernel
theorem dX0_find_3 : decode cX0_find 3 = .ok (.getfield 12, 3) := by decide +kernel
theorem w_193 : Cond.lays "QuarterWalks$Book" "QuarterWalks$Book" "past" "I" ∈ wAll := wIn 193 (by decide +kernel) (by decide +kernel)
theorem w_195 : Cond.laysFinal "QuarterWalks$Book" "QuarterWalks$Book" "now" "LQuarterWalks$Shelf;" ∈ wAll := wIn 195 (by decide +kernel) (by decide +kernel)
theorem w_197 : Cond.laysFinal "QuarterWalks$Book" "QuarterWalks$Book" "kept" "LQuarterWalks$Shelf;" ∈ wAll := wIn 197 (by decide +kernel) (by decide +kernel)
theorem w_199 : Cond.laysFinal "QuarterWalks$Book" "QuarterWalks$Book" "before" "[LQuarterWalks$Shelf;" ∈ wAll := wIn 199 (by decide +kernel) (by decide +kernel)
theorem w_201 : Cond.lays "QuarterWalks$Book" "QuarterWalks$Book" "isKept" "Z" ∈ wAll := wIn 201 (by decide +kernel) (by decide +kernel)
theorem w_203 : Cond.lays "QuarterWalks$Book" "QuarterWalks$Book" "next" "I" ∈ wAll := wIn 203 (by decide +kernel) (by decide +kernel)
theorem inA_X0 : ∀ w ∈ u_ws RX0 TX0 6, w ∈ wAll := List.forall_mem_cons.mpr ⟨w_193, List.forall_mem_cons.mpr ⟨w_195, List.forall_mem_cons.mpr ⟨w_197, List.forall_mem_cons.mpr ⟨w_199, List.forall_mem_cons.mpr ⟨w_201, List.forall_mem_cons.mpr ⟨w_203, fun _ h => absurd h List.not_mem_nil⟩⟩⟩⟩⟩⟩
theorem w_188 : Cond.fieldLink "QuarterWalks$Book" 12 "QuarterWalks$Book" "now" "LQuarterWalks$Shelf;" ∈ wAll := wIn 188 (by decide +kernel) (by decide +kernel)
theorem fl_X0_12 : fl RX0 12 1 1 := ⟨RX0, TX0, 6, rfl, inA_X0, by decide, w_188⟩
theorem dX0_find_6 : decode cX0_find 6 = .ok (.getfield 25, 3) := by decide +kernel
theorem w_180 : Cond.laysFinal "QuarterWalks$Shelf" "QuarterWalks$Shelf" "sets" "[LQuarterWalks$StepSet;" ∈ wAll := wIn 180 (by decide +kernel) (by decide +kernel)
theorem w_182 : Cond.lays "QuarterWalks$Shelf" "QuarterWalks$Shelf" "size" "I" ∈ wAll := wIn 182 (by decide +kernel) (by decide +kernel)
theorem inA_X5 : ∀ w ∈ u_ws RX5 TX5 2, w ∈ wAll := List.forall_mem_cons.mpr ⟨w_180, List.forall_mem_cons.mpr ⟨w_182, fun _ h => absurd h List.not_mem_nil⟩⟩
theorem w_178 : Cond.fieldLink "QuarterWalks$Book" 25 "QuarterWalks$Shelf" "size" "I" ∈ wAll := wIn 178 (by decide +kernel) (by decide +kernel)
theorem fl_X0_25 : fl RX0 25 6 1 := ⟨RX5, TX5, 2, rfl, inA_X5, by decide, w_178⟩
theorem dX0_find_9 : decode cX0_find 9 = .ok (.iconst 1, 1) := by decide +kernel
theorem dX0_find_10 : decode cX0_find 10 = .ok (.isub, 1) := by decide +kernel
theorem dX0_find_11 : decode cX0_find 11 = .ok (.invokestatic 29, 3) := by decide +kernel
theorem w_96 : Cond.initialized "QuarterWalks" ∈ wAll := wIn 96 (by decide +kernel) (by decide +kernel)
theorem mk_X10_within : mk yX10_within 3 := ⟨by decide +kernel, w_96⟩
theorem w_426 : Cond.static yX10_within ∈ wAll := wIn 426 (by decide +kernel) (by decide +kernel)
theorem w_427 : Cond.code yX10_within cX10_within 3 (some .boolean) ∈ wAll := wIn 427 (by decide +kernel) (by decide +kernel)
theorem dX0_find_14 : decode cX0_find 14 = .ok (.ifCond .eq 15, 3) := by decide +kernel
theorem dX0_find_29 : decode cX0_find 29 = .ok (.aconst_null, 1) := by decide +kernel
theorem dX0_find_30 : decode cX0_find 30 = .ok (.areturn, 1) := by decide +kernel
theorem dX11_isSet_0 : decode cX11_isSet 0 = .ok (.iload_n 1, 1) := by decide +kernel
theorem dX11_isSet_1 : decode cX11_isSet 1 = .ok (.i2l, 1) := by decide +kernel
theorem dX11_isSet_2 : decode cX11_isSet 2 = .ok (.lconst 0, 1) := by decide +kernel
theorem dX11_isSet_3 : decode cX11_isSet 3 = .ok (.aload_n 0, 1) := by decide +kernel
theorem dX11_isSet_4 : decode cX11_isSet 4 = .ok (.getfield 17, 3) := by decide +kernel
theorem w_1465 : Cond.lays "QuarterWalksModel" "QuarterWalksModel" "thrown" "I" ∈ wAll := wIn 1465 (by decide +kernel) (by decide +kernel)
theorem w_1467 : Cond.laysFinal "QuarterWalksModel" "QuarterWalksModel" "tape" "[B" ∈ wAll := wIn 1467 (by decide +kernel) (by decide +kernel)
theorem w_1469 : Cond.lays "QuarterWalksModel" "QuarterWalksModel" "length" "I" ∈ wAll := wIn 1469 (by decide +kernel) (by decide +kernel)
theorem w_1471 : Cond.lays "QuarterWalksModel" "QuarterWalksModel" "at" "I" ∈ wAll := wIn 1471 (by decide +kernel) (by decide +kernel)
theorem w_1473 : Cond.lays "QuarterWalksModel" "QuarterWalksModel" "fault" "I" ∈ wAll := wIn 1473 (by decide +kernel) (by decide +kernel)
theorem w_1475 : Cond.laysFinal "QuarterWalksModel" "QuarterWalksModel" "read" "[I" ∈ wAll := wIn 1475 (by decide +kernel) (by decide +kernel)
theorem w_1477 : Cond.laysFinal "QuarterWalksModel" "QuarterWalksModel" "book" "[I" ∈ wAll := wIn 1477 (by decide +kernel) (by decide +kernel)
theorem w_1479 : Cond.laysFinal "QuarterWalksModel" "QuarterWalksModel" "image" "[I" ∈ wAll := wIn 1479 (by decide +kernel) (by decide +kernel)
theorem w_1481 : Cond.laysFinal "QuarterWalksModel" "QuarterWalksModel" "kept" "[I" ∈ wAll := wIn 1481 (by decide +kernel) (by decide +kernel)
theorem w_1483 : Cond.laysFinal "QuarterWalksModel" "QuarterWalksModel" "refused" "[I" ∈ wAll := wIn 1483 (by decide +kernel) (by decide +kernel)
theorem w_1485 : Cond.lays "QuarterWalksModel" "QuarterWalksModel" "acts" "I" ∈ wAll := wIn 1485 (by decide +kernel) (by decide +kernel)
theorem w_1487 : Cond.lays "QuarterWalksModel" "QuarterWalksModel" "hasImage" "Z" ∈ wAll := wIn 1487 (by decide +kernel) (by decide +kernel)
theorem w_1489 : Cond.lays "QuarterWalksModel" "QuarterWalksModel" "grid" "[J" ∈ wAll := wIn 1489 (by decide +kernel) (by decide +kernel)
theorem w_1491 : Cond.lays "QuarterWalksModel" "QuarterWalksModel" "next" "[J" ∈ wAll := wIn 1491 (by decide +kernel) (by decide +kernel)
theorem w_1493 : Cond.lays "QuarterWalksModel" "QuarterWalksModel" "gone" "I" ∈ wAll := wIn 1493 (by decide +kernel) (by decide +kernel)
theorem w_1495 : Cond.laysFinal "QuarterWalksModel" "QuarterWalksModel" "term" "[I" ∈ wAll := wIn 1495 (by decide +kernel) (by decide +kernel)
theorem w_1497 : Cond.laysFinal "QuarterWalksModel" "QuarterWalksModel" "other" "[I" ∈ wAll := wIn 1497 (by decide +kernel) (by decide +kernel)
theorem w_1499 : Cond.laysFinal "QuarterWalksModel" "QuarterWalksModel" "table" "[J" ∈ wAll := wIn 1499 (by decide +kernel) (by decide +kernel)
theorem w_1501 : Cond.lays "QuarterWalksModel" "QuarterWalksModel" "determinant" "J" ∈ wAll := wIn 1501 (by decide +kernel) (by decide +kernel)
theorem w_1503 : Cond.laysFinal "QuarterWalksModel" "QuarterWalksModel" "held" "[J" ∈ wAll := wIn 1503 (by decide +kernel) (by decide +kernel)
theorem w_1505 : Cond.laysFinal "QuarterWalksModel" "QuarterWalksModel" "orbitX" "[I" ∈ wAll := wIn 1505 (by decide +kernel) (by decide +kernel)
theorem w_1507 : Cond.laysFinal "QuarterWalksModel" "QuarterWalksModel" "orbitY" "[I" ∈ wAll := wIn 1507 (by decide +kernel) (by decide +kernel)
theorem w_1509 : Cond.laysFinal "QuarterWalksModel" "QuarterWalksModel" "column" "[J" ∈ wAll := wIn 1509 (by decide +kernel) (by decide +kernel)
theorem w_1511 : Cond.laysFinal "QuarterWalksModel" "QuarterWalksModel" "reduced" "[J" ∈ wAll := wIn 1511 (by decide +kernel) (by decide +kernel)
theorem w_1513 : Cond.laysFinal "QuarterWalksModel" "QuarterWalksModel" "made" "[J" ∈ wAll := wIn 1513 (by decide +kernel) (by decide +kernel)
theorem w_1515 : Cond.laysFinal "QuarterWalksModel" "QuarterWalksModel" "told" "[J" ∈ wAll := wIn 1515 (by decide +kernel) (by decide +kernel)
theorem w_1517 : Cond.laysFinal "QuarterWalksModel" "QuarterWalksModel" "leads" "[I" ∈ wAll := wIn 1517 (by decide +kernel) (by decide +kernel)
theorem w_1519 : Cond.lays "QuarterWalksModel" "QuarterWalksModel" "columns" "I" ∈ wAll := wIn 1519 (by decide +kernel) (by decide +kernel)
theorem w_1521 : Cond.lays "QuarterWalksModel" "QuarterWalksModel" "rows" "I" ∈ wAll := wIn 1521 (by decide +kernel) (by decide +kernel)
theorem w_1523 : Cond.laysFinal "QuarterWalksModel" "QuarterWalksModel" "powers" "[J" ∈ wAll := wIn 1523 (by decide +kernel) (by decide +kernel)
theorem w_1525 : Cond.laysFinal "QuarterWalksModel" "QuarterWalksModel" "said" "[I" ∈ wAll := wIn 1525 (by decide +kernel) (by decide +kernel)
theorem w_1527 : Cond.lays "QuarterWalksModel" "QuarterWalksModel" "says" "I" ∈ wAll := wIn 1527 (by decide +kernel) (by decide +kernel)
theorem inA_X11 : ∀ w ∈ u_ws RX11 TX11 32, w ∈ wAll := List.forall_mem_cons.mpr ⟨w_1465, List.forall_mem_cons.mpr ⟨w_1467, List.forall_mem_cons.mpr ⟨w_1469, List.forall_mem_cons.mpr ⟨w_1471, List.forall_mem_cons.mpr ⟨w_1473, List.forall_mem_cons.mpr ⟨w_1475, List.forall_mem_cons.mpr ⟨w_1477, List.forall_mem_cons.mpr ⟨w_1479, List.forall_mem_cons.mpr ⟨w_1481, List.forall_mem_cons.mpr ⟨w_1483, List.forall_mem_cons.mpr ⟨w_1485, List.forall_mem_cons.mpr ⟨w_1487, List.forall_mem_cons.mpr ⟨w_1489, List.forall_mem_cons.mpr ⟨w_1491, List.forall_mem_cons.mpr ⟨w_1493, List.forall_mem_cons.mpr ⟨w_1495, List.forall_mem_cons.mpr ⟨w_1497, List.forall_mem_cons.mpr ⟨w_1499, List.forall_mem_cons.mpr ⟨w_1501, List.forall_mem_cons.mpr ⟨w_1503, List.forall_mem_cons.mpr ⟨w_1505, List.forall_mem_cons.mpr ⟨w_1507, List.forall_mem_cons.mpr ⟨w_1509, List.forall_mem_cons.mpr ⟨w_1511, List.forall_mem_cons.mpr ⟨w_1513, List.forall_mem_cons.mpr ⟨w_1515, List.forall_mem_cons.mpr ⟨w_1517, List.forall_mem_cons.mpr ⟨w_1519, List.forall_mem_cons.mpr ⟨w_1521, List.forall_mem_cons.mpr ⟨w_1523, List.forall_mem_cons.mpr ⟨w_1525, List.forall_mem_cons.mpr ⟨w_1527, fun _ h => absurd h List.not_mem_nil⟩⟩⟩⟩⟩⟩⟩⟩⟩⟩⟩⟩⟩⟩⟩⟩⟩⟩⟩⟩⟩⟩⟩⟩⟩⟩⟩⟩⟩⟩⟩⟩
theorem w_1439 : Cond.fieldLink "QuarterWalksModel" 17 "QuarterWalksModel" "book" "[I" ∈ wAll := wIn 1439 (by decide +kernel) (by decide +kernel)
theorem fl_X11_17 : fl RX11 17 12 6 := ⟨RX11, TX11, 32, rfl, inA_X11, by decide, w_1439⟩
theorem dX11_isSet_7 : decode cX11_isSet 7 = .ok (.bipush 80, 2) := by decide +kernel
theorem dX11_isSet_9 : decode cX11_isSet 9 = .ok (.iaload, 1) := by decide +kernel
theorem dX11_isSet_10 : decode cX11_isSet 10 = .ok (.iconst 1, 1) := by decide +kernel
theorem dX11_isSet_11 : decode cX11_isSet 11 = .ok (.isub, 1) := by decide +kernel
theorem dX11_isSet_12 : decode cX11_isSet 12 = .ok (.i2l, 1) := by decide +kernel
theorem dX11_isSet_13 : decode cX11_isSet 13 = .ok (.invokestatic 158, 3) := by decide +kernel
theorem w_1628 : Cond.methodLink "QuarterWalksModel" 158 yX11_isIn ∈ wAll := wIn 1628 (by decide +kernel) (by decide +kernel)
theorem w_110 : Cond.initialized "QuarterWalksModel" ∈ wAll := wIn 110 (by decide +kernel) (by decide +kernel)
theorem mk_X11_isIn : mk yX11_isIn 3 := ⟨by decide +kernel, w_110⟩
theorem w_1629 : Cond.static yX11_isIn ∈ wAll := wIn 1629 (by decide +kernel) (by decide +kernel)
theorem w_1630 : Cond.code yX11_isIn cX11_isIn 6 (some .boolean) ∈ wAll := wIn 1630 (by decide +kernel) (by decide +kernel)
theorem dX11_isSet_16 : decode cX11_isSet 16 = .ok (.ireturn, 1) := by decide +kernel
theorem dX10_refuse_0 : decode cX10_refuse 0 = .ok (.aload_n 0, 1) := by decide +kernel
theorem dX10_refuse_1 : decode cX10_refuse 1 = .ok (.getfield 60, 3) := by decide +kernel
theorem w_389 : Cond.laysFinal "QuarterWalks" "QuarterWalks" "tape" "LQuarterWalks$Tape;" ∈ wAll := wIn 389 (by decide +kernel) (by decide +kernel)
theorem w_391 : Cond.laysFinal "QuarterWalks" "QuarterWalks" "book" "LQuarterWalks$Book;" ∈ wAll := wIn 391 (by decide +kernel) (by decide +kernel)
theorem w_393 : Cond.laysFinal "QuarterWalks" "QuarterWalks" "grid" "LQuarterWalks$Grid;" ∈ wAll := wIn 393 (by decide +kernel) (by decide +kernel)
theorem w_395 : Cond.laysFinal "QuarterWalks" "QuarterWalks" "ways" "LQuarterWalks$Ways;" ∈ wAll := wIn 395 (by decide +kernel) (by decide +kernel)
theorem w_397 : Cond.laysFinal "QuarterWalks" "QuarterWalks" "turns" "LQuarterWalks$Turns;" ∈ wAll := wIn 397 (by decide +kernel) (by decide +kernel)
theorem w_399 : Cond.laysFinal "QuarterWalks" "QuarterWalks" "matrix" "LQuarterWalks$Matrix;" ∈ wAll := wIn 399 (by decide +kernel) (by decide +kernel)
theorem w_401 : Cond.laysFinal "QuarterWalks" "QuarterWalks" "guess" "LQuarterWalks$Guess;" ∈ wAll := wIn 401 (by decide +kernel) (by decide +kernel)
theorem w_403 : Cond.laysFinal "QuarterWalks" "QuarterWalks" "refused" "[I" ∈ wAll := wIn 403 (by decide +kernel) (by decide +kernel)
theorem w_405 : Cond.laysFinal "QuarterWalks" "QuarterWalks" "scratch" "[J" ∈ wAll := wIn 405 (by decide +kernel) (by decide +kernel)
theorem w_407 : Cond.laysFinal "QuarterWalks" "QuarterWalks" "script" "Ljava/lang/StringBuilder;" ∈ wAll := wIn 407 (by decide +kernel) (by decide +kernel)
theorem inA_X10 : ∀ w ∈ u_ws RX10 TX10 10, w ∈ wAll := List.forall_mem_cons.mpr ⟨w_389, List.forall_mem_cons.mpr ⟨w_391, List.forall_mem_cons.mpr ⟨w_393, List.forall_mem_cons.mpr ⟨w_395, List.forall_mem_cons.mpr ⟨w_397, List.forall_mem_cons.mpr ⟨w_399, List.forall_mem_cons.mpr ⟨w_401, List.forall_mem_cons.mpr ⟨w_403, List.forall_mem_cons.mpr ⟨w_405, List.forall_mem_cons.mpr ⟨w_407, fun _ h => absurd h List.not_mem_nil⟩⟩⟩⟩⟩⟩⟩⟩⟩⟩
theorem w_386 : Cond.fieldLink "QuarterWalks" 60 "QuarterWalks" "refused" "[I" ∈ wAll := wIn 386 (by decide +kernel) (by decide +kernel)
theorem fl_X10_60 : fl RX10 60 11 7 := ⟨RX10, TX10, 10, rfl, inA_X10, by decide, w_386⟩
theorem dX10_refuse_4 : decode cX10_refuse 4 = .ok (.iload_n 1, 1) := by decide +kernel
theorem dX10_refuse_5 : decode cX10_refuse 5 = .ok (.dup2, 1) := by decide +kernel
theorem dX10_refuse_6 : decode cX10_refuse 6 = .ok (.iaload, 1) := by decide +kernel
theorem dX10_refuse_7 : decode cX10_refuse 7 = .ok (.iconst 1, 1) := by decide +kernel
theorem dX10_refuse_8 : decode cX10_refuse 8 = .ok (.iadd, 1) := by decide +kernel
theorem dX10_refuse_9 : decode cX10_refuse 9 = .ok (.iastore, 1) := by decide +kernel
theorem dX10_refuse_10 : decode cX10_refuse 10 = .ok (.iconst (-1), 1) := by decide +kernel
theorem dX10_refuse_11 : decode cX10_refuse 11 = .ok (.ireturn, 1) := by decide +kernel
theorem dX11_refuse_0 : decode cX11_refuse 0 = .ok (.aload_n 0, 1) := by decide +kernel
theorem dX11_refuse_1 : decode cX11_refuse 1 = .ok (.getfield 26, 3) := by decide +kernel
theorem w_1442 : Cond.fieldLink "QuarterWalksModel" 26 "QuarterWalksModel" "refused" "[I" ∈ wAll := wIn 1442 (by decide +kernel) (by decide +kernel)
theorem fl_X11_26 : fl RX11 26 12 9 := ⟨RX11, TX11, 32, rfl, inA_X11, by decide, w_1442⟩
theorem dX11_refuse_4 : decode cX11_refuse 4 = .ok (.iload_n 1, 1) := by decide +kernel
theorem dX11_refuse_5 : decode cX11_refuse 5 = .ok (.dup2, 1) := by decide +kernel
theorem dX11_refuse_6 : decode cX11_refuse 6 = .ok (.iaload, 1) := by decide +kernel
theorem dX11_refuse_7 : decode cX11_refuse 7 = .ok (.iconst 1, 1) := by decide +kernel
theorem dX11_refuse_8 : decode cX11_refuse 8 = .ok (.iadd, 1) := by decide +kernel
theorem dX11_refuse_9 : decode cX11_refuse 9 = .ok (.iastore, 1) := by decide +kernel
theorem dX11_refuse_10 : decode cX11_refuse 10 = .ok (.iconst (-1), 1) := by decide +kernel
theorem dX11_refuse_11 : decode cX11_refuse 11 = .ok (.ireturn, 1) := by decide +kernel
theorem dX10_readies_0 : decode cX10_readies 0 = .ok (.aload_n 0, 1) := by decide +kernel
theorem dX10_readies_1 : decode cX10_readies 1 = .ok (.getfield 19, 3) := by decide +kernel
theorem w_380 : Cond.fieldLink "QuarterWalks" 19 "QuarterWalks" "book" "LQuarterWalks$Book;" ∈ wAll := wIn 380 (by decide +kernel) (by decide +kernel)
theorem fl_X10_19 : fl RX10 19 11 1 := ⟨RX10, TX10, 10, rfl, inA_X10, by decide, w_380⟩
theorem dX10_readies_4 : decode cX10_readies 4 = .ok (.iload_n 1, 1) := by decide +kernel
theorem dX10_readies_5 : decode cX10_readies 5 = .ok (.invokevirtual 110, 3) := by decide +kernel
theorem w_594 : Cond.methodLink "QuarterWalks" 110 yX0_find ∈ wAll := wIn 594 (by decide +kernel) (by decide +kernel)
theorem w_596 : Cond.selects yX0_find.cls yX0_find yX0_find ∈ wAll := wIn 596 (by decide +kernel) (by decide +kernel)
theorem w_98 : Cond.initialized "QuarterWalks$Book" ∈ wAll := wIn 98 (by decide +kernel) (by decide +kernel)
theorem mk_X0_find : mk yX0_find 1 := ⟨by decide +kernel, w_98⟩
theorem w_595 : Cond.instanceMethod yX0_find ∈ wAll := wIn 595 (by decide +kernel) (by decide +kernel)
theorem w_597 : Cond.code yX0_find cX0_find 2 (some (.object "QuarterWalks$StepSet")) ∈ wAll := wIn 597 (by decide +kernel) (by decide +kernel)
theorem dX10_readies_8 : decode cX10_readies 8 = .ok (.astore 6, 2) := by decide +kernel
theorem dX10_readies_10 : decode cX10_readies 10 = .ok (.aload 6, 2) := by decide +kernel
theorem dX10_readies_12 : decode cX10_readies 12 = .ok (.ifnull 21, 3) := by decide +kernel
theorem dX10_readies_33 : decode cX10_readies 33 = .ok (.iconst 0, 1) := by decide +kernel
theorem dX10_readies_34 : decode cX10_readies 34 = .ok (.ireturn, 1) := by decide +kernel
theorem dX10_drop_0 : decode cX10_drop 0 = .ok (.aload_n 0, 1) := by decide +kernel
theorem dX10_drop_1 : decode cX10_drop 1 = .ok (.getfield 19, 3) := by decide +kernel
theorem dX10_drop_4 : decode cX10_drop 4 = .ok (.iload_n 1, 1) := by decide +kernel
theorem dX10_drop_5 : decode cX10_drop 5 = .ok (.invokevirtual 110, 3) := by decide +kernel
theorem dX10_drop_8 : decode cX10_drop 8 = .ok (.ifnonnull 9, 3) := by decide +kernel
theorem dX10_drop_11 : decode cX10_drop 11 = .ok (.aload_n 0, 1) := by decide +kernel
theorem dX10_drop_12 : decode cX10_drop 12 = .ok (.iconst 0, 1) := by decide +kernel
theorem dX10_drop_13 : decode cX10_drop 13 = .ok (.invokevirtual 95, 3) := by decide +kernel
theorem w_519 : Cond.methodLink "QuarterWalks" 95 yX10_refuse ∈ wAll := wIn 519 (by decide +kernel) (by decide +kernel)
theorem w_8 : Cond.selects yX10_refuse.cls yX10_refuse yX10_refuse ∈ wAll := wIn 8 (by decide +kernel) (by decide +kernel)
theorem mk_X10_refuse : mk yX10_refuse 1 := ⟨by decide +kernel, w_96⟩
theorem w_521 : Cond.instanceMethod yX10_refuse ∈ wAll := wIn 521 (by decide +kernel) (by decide +kernel)
theorem w_522 : Cond.code yX10_refuse cX10_refuse 2 (some .int) ∈ wAll := wIn 522 (by decide +kernel) (by decide +kernel)
theorem dX10_drop_16 : decode cX10_drop 16 = .ok (.ireturn, 1) := by decide +kernel
theorem dX10_mirror_0 : decode cX10_mirror 0 = .ok (.aload_n 0, 1) := by decide +kernel
theorem dX10_mirror_1 : decode cX10_mirror 1 = .ok (.getfield 19, 3) := by decide +kernel
theorem dX10_mirror_4 : decode cX10_mirror 4 = .ok (.iload_n 1, 1) := by decide +kernel
theorem dX10_mirror_5 : decode cX10_mirror 5 = .ok (.invokevirtual 110, 3) := by decide +kernel
theorem dX10_mirror_8 : decode cX10_mirror 8 = .ok (.astore_n 2, 1) := by decide +kernel
theorem dX10_mirror_9 : decode cX10_mirror 9 = .ok (.aload_n 2, 1) := by decide +kernel
theorem dX10_mirror_10 : decode cX10_mirror 10 = .ok (.ifnonnull 11, 3) := by decide +kernel
theorem dX10_mirror_13 : decode cX10_mirror 13 = .ok (.aload_n 0, 1) := by decide +kernel
theorem dX10_mirror_14 : decode cX10_mirror 14 = .ok (.iconst 0, 1) := by decide +kernel
theorem dX10_mirror_15 : decode cX10_mirror 15 = .ok (.invokevirtual 95, 3) := by decide +kernel
theorem dX10_mirror_18 : decode cX10_mirror 18 = .ok (.goto 19, 3) := by decide +kernel
theorem dX10_mirror_37 : decode cX10_mirror 37 = .ok (.ireturn, 1) := by decide +kernel
theorem dX10_turn_0 : decode cX10_turn 0 = .ok (.aload_n 0, 1) := by decide +kernel
theorem dX10_turn_1 : decode cX10_turn 1 = .ok (.getfield 19, 3) := by decide +kernel
theorem dX10_turn_4 : decode cX10_turn 4 = .ok (.iload_n 1, 1) := by decide +kernel
theorem dX10_turn_5 : decode cX10_turn 5 = .ok (.invokevirtual 110, 3) := by decide +kernel
theorem dX10_turn_8 : decode cX10_turn 8 = .ok (.astore_n 2, 1) := by decide +kernel
theorem dX10_turn_9 : decode cX10_turn 9 = .ok (.aload_n 2, 1) := by decide +kernel
theorem dX10_turn_10 : decode cX10_turn 10 = .ok (.ifnonnull 11, 3) := by decide +kernel
theorem dX10_turn_13 : decode cX10_turn 13 = .ok (.aload_n 0, 1) := by decide +kernel
theorem dX10_turn_14 : decode cX10_turn 14 = .ok (.iconst 0, 1) := by decide +kernel
theorem dX10_turn_15 : decode cX10_turn 15 = .ok (.invokevirtual 95, 3) := by decide +kernel
theorem dX10_turn_18 : decode cX10_turn 18 = .ok (.goto 19, 3) := by decide +kernel
theorem dX10_turn_37 : decode cX10_turn 37 = .ok (.ireturn, 1) := by decide +kernel
theorem dX10_join_0 : decode cX10_join 0 = .ok (.aload_n 0, 1) := by decide +kernel
theorem dX10_join_1 : decode cX10_join 1 = .ok (.getfield 19, 3) := by decide +kernel
theorem dX10_join_4 : decode cX10_join 4 = .ok (.iload_n 1, 1) := by decide +kernel
theorem dX10_join_5 : decode cX10_join 5 = .ok (.invokevirtual 110, 3) := by decide +kernel
theorem dX10_join_8 : decode cX10_join 8 = .ok (.astore_n 3, 1) := by decide +kernel
theorem dX10_join_9 : decode cX10_join 9 = .ok (.aload_n 0, 1) := by decide +kernel
theorem dX10_join_10 : decode cX10_join 10 = .ok (.getfield 19, 3) := by decide +kernel
theorem dX10_join_13 : decode cX10_join 13 = .ok (.iload_n 2, 1) := by decide +kernel
theorem dX10_join_14 : decode cX10_join 14 = .ok (.invokevirtual 110, 3) := by decide +kernel
theorem dX10_join_17 : decode cX10_join 17 = .ok (.astore 4, 2) := by decide +kernel
theorem dX10_join_19 : decode cX10_join 19 = .ok (.aload_n 3, 1) := by decide +kernel
theorem dX10_join_20 : decode cX10_join 20 = .ok (.ifnull 8, 3) := by decide +kernel
theorem dX10_join_28 : decode cX10_join 28 = .ok (.aload_n 0, 1) := by decide +kernel
theorem dX10_join_29 : decode cX10_join 29 = .ok (.iconst 0, 1) := by decide +kernel
theorem dX10_join_30 : decode cX10_join 30 = .ok (.invokevirtual 95, 3) := by decide +kernel
theorem dX10_join_33 : decode cX10_join 33 = .ok (.ireturn, 1) := by decide +kernel
theorem dX10_scale_0 : decode cX10_scale 0 = .ok (.aload_n 0, 1) := by decide +kernel
theorem dX10_scale_1 : decode cX10_scale 1 = .ok (.getfield 19, 3) := by decide +kernel
theorem dX10_scale_4 : decode cX10_scale 4 = .ok (.iload_n 1, 1) := by decide +kernel
theorem dX10_scale_5 : decode cX10_scale 5 = .ok (.invokevirtual 110, 3) := by decide +kernel
theorem dX10_scale_8 : decode cX10_scale 8 = .ok (.astore_n 3, 1) := by decide +kernel
theorem dX10_scale_9 : decode cX10_scale 9 = .ok (.aload_n 3, 1) := by decide +kernel
theorem dX10_scale_10 : decode cX10_scale 10 = .ok (.ifnonnull 9, 3) := by decide +kernel
theorem dX10_scale_13 : decode cX10_scale 13 = .ok (.aload_n 0, 1) := by decide +kernel
theorem dX10_scale_14 : decode cX10_scale 14 = .ok (.iconst 0, 1) := by decide +kernel
theorem dX10_scale_15 : decode cX10_scale 15 = .ok (.invokevirtual 95, 3) := by decide +kernel
theorem dX10_scale_18 : decode cX10_scale 18 = .ok (.ireturn, 1) := by decide +kernel
theorem dX10_weigh_0 : decode cX10_weigh 0 = .ok (.aload_n 0, 1) := by decide +kernel
theorem dX10_weigh_1 : decode cX10_weigh 1 = .ok (.getfield 19, 3) := by decide +kernel
theorem dX10_weigh_4 : decode cX10_weigh 4 = .ok (.iload_n 1, 1) := by decide +kernel
theorem dX10_weigh_5 : decode cX10_weigh 5 = .ok (.invokevirtual 110, 3) := by decide +kernel
theorem dX10_weigh_8 : decode cX10_weigh 8 = .ok (.astore 4, 2) := by decide +kernel
theorem dX10_weigh_10 : decode cX10_weigh 10 = .ok (.aload 4, 2) := by decide +kernel
theorem dX10_weigh_12 : decode cX10_weigh 12 = .ok (.ifnonnull 9, 3) := by decide +kernel
theorem dX10_weigh_15 : decode cX10_weigh 15 = .ok (.aload_n 0, 1) := by decide +kernel
theorem dX10_weigh_16 : decode cX10_weigh 16 = .ok (.iconst 0, 1) := by decide +kernel
theorem dX10_weigh_17 : decode cX10_weigh 17 = .ok (.invokevirtual 95, 3) := by decide +kernel
theorem dX10_weigh_20 : decode cX10_weigh 20 = .ok (.ireturn, 1) := by decide +kernel
theorem dX10_start_0 : decode cX10_start 0 = .ok (.aload_n 0, 1) := by decide +kernel
theorem dX10_start_1 : decode cX10_start 1 = .ok (.getfield 19, 3) := by decide +kernel
theorem dX10_start_4 : decode cX10_start 4 = .ok (.iload_n 1, 1) := by decide +kernel
theorem dX10_start_5 : decode cX10_start 5 = .ok (.invokevirtual 110, 3) := by decide +kernel
theorem dX10_start_8 : decode cX10_start 8 = .ok (.astore 4, 2) := by decide +kernel
theorem dX10_start_10 : decode cX10_start 10 = .ok (.aload 4, 2) := by decide +kernel
theorem dX10_start_12 : decode cX10_start 12 = .ok (.ifnonnull 9, 3) := by decide +kernel
theorem dX10_start_15 : decode cX10_start 15 = .ok (.aload_n 0, 1) := by decide +kernel
theorem dX10_start_16 : decode cX10_start 16 = .ok (.iconst 0, 1) := by decide +kernel
theorem dX10_start_17 : decode cX10_start 17 = .ok (.invokevirtual 95, 3) := by decide +kernel
theorem dX10_start_20 : decode cX10_start 20 = .ok (.ireturn, 1) := by decide +kernel
theorem dX10_at_0 : decode cX10_at 0 = .ok (.aload_n 0, 1) := by decide +kernel
theorem dX10_at_1 : decode cX10_at 1 = .ok (.getfield 19, 3) := by decide +kernel
theorem dX10_at_4 : decode cX10_at 4 = .ok (.iload_n 2, 1) := by decide +kernel
theorem dX10_at_5 : decode cX10_at 5 = .ok (.invokevirtual 110, 3) := by decide +kernel
theorem dX10_at_8 : decode cX10_at 8 = .ok (.astore 6, 2) := by decide +kernel
theorem dX10_at_10 : decode cX10_at 10 = .ok (.aload 6, 2) := by decide +kernel
theorem dX10_at_12 : decode cX10_at 12 = .ok (.ifnull 29, 3) := by decide +kernel
theorem dX10_at_41 : decode cX10_at 41 = .ok (.iconst (-1), 1) := by decide +kernel
theorem dX10_at_42 : decode cX10_at 42 = .ok (.ireturn, 1) := by decide +kernel
theorem dX10_series_0 : decode cX10_series 0 = .ok (.aload_n 0, 1) := by decide +kernel
theorem dX10_series_1 : decode cX10_series 1 = .ok (.getfield 19, 3) := by decide +kernel
theorem dX10_series_4 : decode cX10_series 4 = .ok (.iload_n 1, 1) := by decide +kernel
theorem dX10_series_5 : decode cX10_series 5 = .ok (.invokevirtual 110, 3) := by decide +kernel
theorem dX10_series_8 : decode cX10_series 8 = .ok (.astore 4, 2) := by decide +kernel
theorem dX10_series_10 : decode cX10_series 10 = .ok (.aload 4, 2) := by decide +kernel
theorem dX10_series_12 : decode cX10_series 12 = .ok (.ifnull 17, 3) := by decide +kernel
theorem dX10_series_29 : decode cX10_series 29 = .ok (.iconst (-1), 1) := by decide +kernel
theorem dX10_series_30 : decode cX10_series 30 = .ok (.ireturn, 1) := by decide +kernel
theorem dX10_exact_0 : decode cX10_exact 0 = .ok (.aload_n 0, 1) := by decide +kernel
theorem dX10_exact_1 : decode cX10_exact 1 = .ok (.getfield 19, 3) := by decide +kernel
theorem dX10_exact_4 : decode cX10_exact 4 = .ok (.iload_n 1, 1) := by decide +kernel
theorem dX10_exact_5 : decode cX10_exact 5 = .ok (.invokevirtual 110, 3) := by decide +kernel
theorem dX10_exact_8 : decode cX10_exact 8 = .ok (.astore 5, 2) := by decide +kernel
theorem dX10_exact_10 : decode cX10_exact 10 = .ok (.aload 5, 2) := by decide +kernel
theorem dX10_exact_12 : decode cX10_exact 12 = .ok (.ifnull 31, 3) := by decide +kernel
theorem dX10_exact_43 : decode cX10_exact 43 = .ok (.ldc2_w 205, 3) := by decide +kernel
theorem w_757 : Cond.constantLong "QuarterWalks" 205 (-1) ∈ wAll := wIn 757 (by decide +kernel) (by decide +kernel)
theorem dX10_exact_46 : decode cX10_exact 46 = .ok (.lreturn, 1) := by decide +kernel
theorem dX10_bridge_0 : decode cX10_bridge 0 = .ok (.aload_n 0, 1) := by decide +kernel
theorem dX10_bridge_1 : decode cX10_bridge 1 = .ok (.getfield 19, 3) := by decide +kernel
theorem dX10_bridge_4 : decode cX10_bridge 4 = .ok (.iload_n 1, 1) := by decide +kernel
theorem dX10_bridge_5 : decode cX10_bridge 5 = .ok (.invokevirtual 110, 3) := by decide +kernel
theorem dX10_bridge_8 : decode cX10_bridge 8 = .ok (.astore 5, 2) := by decide +kernel
theorem dX10_bridge_10 : decode cX10_bridge 10 = .ok (.aload 5, 2) := by decide +kernel
theorem dX10_bridge_12 : decode cX10_bridge 12 = .ok (.ifnull 19, 3) := by decide +kernel
theorem dX10_bridge_31 : decode cX10_bridge 31 = .ok (.iconst (-1), 1) := by decide +kernel
theorem dX10_bridge_32 : decode cX10_bridge 32 = .ok (.ireturn, 1) := by decide +kernel
theorem dX10_reflected_0 : decode cX10_reflected 0 = .ok (.aload_n 0, 1) := by decide +kernel
theorem dX10_reflected_1 : decode cX10_reflected 1 = .ok (.getfield 19, 3) := by decide +kernel
theorem dX10_reflected_4 : decode cX10_reflected 4 = .ok (.iload_n 1, 1) := by decide +kernel
theorem dX10_reflected_5 : decode cX10_reflected 5 = .ok (.invokevirtual 110, 3) := by decide +kernel
theorem dX10_reflected_8 : decode cX10_reflected 8 = .ok (.astore 5, 2) := by decide +kernel
theorem dX10_reflected_10 : decode cX10_reflected 10 = .ok (.aload 5, 2) := by decide +kernel
theorem dX10_reflected_12 : decode cX10_reflected 12 = .ok (.ifnull 31, 3) := by decide +kernel
theorem dX10_reflected_43 : decode cX10_reflected 43 = .ok (.ldc 218, 2) := by decide +kernel
theorem w_772 : Cond.constant "QuarterWalks" 218 (-1000000) ∈ wAll := wIn 772 (by decide +kernel) (by decide +kernel)
theorem dX10_reflected_45 : decode cX10_reflected 45 = .ok (.ireturn, 1) := by decide +kernel
theorem dX10_rank_0 : decode cX10_rank 0 = .ok (.aload_n 0, 1) := by decide +kernel
theorem dX10_rank_1 : decode cX10_rank 1 = .ok (.getfield 19, 3) := by decide +kernel
theorem dX10_rank_4 : decode cX10_rank 4 = .ok (.iload_n 1, 1) := by decide +kernel
theorem dX10_rank_5 : decode cX10_rank 5 = .ok (.invokevirtual 110, 3) := by decide +kernel
theorem dX10_rank_8 : decode cX10_rank 8 = .ok (.astore_n 3, 1) := by decide +kernel
theorem dX10_rank_9 : decode cX10_rank 9 = .ok (.aload_n 3, 1) := by decide +kernel
theorem dX10_rank_10 : decode cX10_rank 10 = .ok (.ifnull 13, 3) := by decide +kernel
theorem dX10_rank_23 : decode cX10_rank 23 = .ok (.iconst (-1), 1) := by decide +kernel
theorem dX10_rank_24 : decode cX10_rank 24 = .ok (.ireturn, 1) := by decide +kernel
theorem dX10_ratio_0 : decode cX10_ratio 0 = .ok (.aload_n 0, 1) := by decide +kernel
theorem dX10_ratio_1 : decode cX10_ratio 1 = .ok (.getfield 19, 3) := by decide +kernel
theorem dX10_ratio_4 : decode cX10_ratio 4 = .ok (.iload_n 1, 1) := by decide +kernel
theorem dX10_ratio_5 : decode cX10_ratio 5 = .ok (.invokevirtual 110, 3) := by decide +kernel
theorem dX10_ratio_8 : decode cX10_ratio 8 = .ok (.astore 4, 2) := by decide +kernel
theorem dX10_ratio_10 : decode cX10_ratio 10 = .ok (.aload 4, 2) := by decide +kernel
theorem dX10_ratio_12 : decode cX10_ratio 12 = .ok (.ifnull 20, 3) := by decide +kernel
theorem dX10_ratio_32 : decode cX10_ratio 32 = .ok (.iconst (-1), 1) := by decide +kernel
theorem dX10_ratio_33 : decode cX10_ratio 33 = .ok (.ireturn, 1) := by decide +kernel
theorem dX10_hankel_0 : decode cX10_hankel 0 = .ok (.aload_n 0, 1) := by decide +kernel
theorem dX10_hankel_1 : decode cX10_hankel 1 = .ok (.getfield 19, 3) := by decide +kernel
theorem dX10_hankel_4 : decode cX10_hankel 4 = .ok (.iload_n 1, 1) := by decide +kernel
theorem dX10_hankel_5 : decode cX10_hankel 5 = .ok (.invokevirtual 110, 3) := by decide +kernel
theorem dX10_hankel_8 : decode cX10_hankel 8 = .ok (.astore 4, 2) := by decide +kernel
theorem dX10_hankel_10 : decode cX10_hankel 10 = .ok (.aload 4, 2) := by decide +kernel
theorem dX10_hankel_12 : decode cX10_hankel 12 = .ok (.ifnull 20, 3) := by decide +kernel
theorem dX10_hankel_32 : decode cX10_hankel 32 = .ok (.iconst (-1), 1) := by decide +kernel
theorem dX10_hankel_33 : decode cX10_hankel 33 = .ok (.ireturn, 1) := by decide +kernel
theorem dX10_convolved_0 : decode cX10_convolved 0 = .ok (.aload_n 0, 1) := by decide +kernel
theorem dX10_convolved_1 : decode cX10_convolved 1 = .ok (.getfield 19, 3) := by decide +kernel
theorem dX10_convolved_4 : decode cX10_convolved 4 = .ok (.iload_n 1, 1) := by decide +kernel
theorem dX10_convolved_5 : decode cX10_convolved 5 = .ok (.invokevirtual 110, 3) := by decide +kernel
theorem dX10_convolved_8 : decode cX10_convolved 8 = .ok (.astore 6, 2) := by decide +kernel
theorem dX10_convolved_10 : decode cX10_convolved 10 = .ok (.aload_n 0, 1) := by decide +kernel
theorem dX10_convolved_11 : decode cX10_convolved 11 = .ok (.getfield 19, 3) := by decide +kernel
theorem dX10_convolved_14 : decode cX10_convolved 14 = .ok (.iload_n 3, 1) := by decide +kernel
theorem dX10_convolved_15 : decode cX10_convolved 15 = .ok (.invokevirtual 110, 3) := by decide +kernel
theorem dX10_convolved_18 : decode cX10_convolved 18 = .ok (.astore 7, 2) := by decide +kernel
theorem dX10_convolved_20 : decode cX10_convolved 20 = .ok (.aload 6, 2) := by decide +kernel
theorem dX10_convolved_22 : decode cX10_convolved 22 = .ok (.ifnull 31, 3) := by decide +kernel
theorem dX10_convolved_53 : decode cX10_convolved 53 = .ok (.iconst (-1), 1) := by decide +kernel
theorem dX10_convolved_54 : decode cX10_convolved 54 = .ok (.ireturn, 1) := by decide +kernel
theorem dX10_out_0 : decode cX10_out 0 = .ok (.aload_n 0, 1) := by decide +kernel
theorem dX10_out_1 : decode cX10_out 1 = .ok (.getfield 19, 3) := by decide +kernel
theorem dX10_out_4 : decode cX10_out 4 = .ok (.iload_n 1, 1) := by decide +kernel
theorem dX10_out_5 : decode cX10_out 5 = .ok (.invokevirtual 110, 3) := by decide +kernel
theorem dX10_out_8 : decode cX10_out 8 = .ok (.astore_n 3, 1) := by decide +kernel
theorem dX10_out_9 : decode cX10_out 9 = .ok (.aload_n 3, 1) := by decide +kernel
theorem dX10_out_10 : decode cX10_out 10 = .ok (.ifnull 10, 3) := by decide +kernel
theorem dX10_out_20 : decode cX10_out 20 = .ok (.iconst (-1), 1) := by decide +kernel
theorem dX10_out_21 : decode cX10_out 21 = .ok (.ireturn, 1) := by decide +kernel
theorem dX10_arches_0 : decode cX10_arches 0 = .ok (.aload_n 0, 1) := by decide +kernel
theorem dX10_arches_1 : decode cX10_arches 1 = .ok (.getfield 19, 3) := by decide +kernel
theorem dX10_arches_4 : decode cX10_arches 4 = .ok (.iload_n 1, 1) := by decide +kernel
theorem dX10_arches_5 : decode cX10_arches 5 = .ok (.invokevirtual 110, 3) := by decide +kernel
theorem dX10_arches_8 : decode cX10_arches 8 = .ok (.astore_n 3, 1) := by decide +kernel
theorem dX10_arches_9 : decode cX10_arches 9 = .ok (.aload_n 3, 1) := by decide +kernel
theorem dX10_arches_10 : decode cX10_arches 10 = .ok (.ifnull 13, 3) := by decide +kernel
theorem dX10_arches_23 : decode cX10_arches 23 = .ok (.iconst (-1), 1) := by decide +kernel
theorem dX10_arches_24 : decode cX10_arches 24 = .ok (.ireturn, 1) := by decide +kernel
theorem dX10_value_0 : decode cX10_value 0 = .ok (.aload_n 0, 1) := by decide +kernel
theorem dX10_value_1 : decode cX10_value 1 = .ok (.getfield 19, 3) := by decide +kernel
theorem dX10_value_4 : decode cX10_value 4 = .ok (.iload_n 1, 1) := by decide +kernel
theorem dX10_value_5 : decode cX10_value 5 = .ok (.invokevirtual 110, 3) := by decide +kernel
theorem dX10_value_8 : decode cX10_value 8 = .ok (.astore 5, 2) := by decide +kernel
theorem dX10_value_10 : decode cX10_value 10 = .ok (.aload 5, 2) := by decide +kernel
theorem dX10_value_12 : decode cX10_value 12 = .ok (.ifnull 31, 3) := by decide +kernel
theorem dX10_value_43 : decode cX10_value 43 = .ok (.iconst (-1), 1) := by decide +kernel
theorem dX10_value_44 : decode cX10_value 44 = .ok (.ireturn, 1) := by decide +kernel
theorem dX10_walk_0 : decode cX10_walk 0 = .ok (.aload_n 0, 1) := by decide +kernel
theorem dX10_walk_1 : decode cX10_walk 1 = .ok (.getfield 19, 3) := by decide +kernel
theorem dX10_walk_4 : decode cX10_walk 4 = .ok (.iload_n 1, 1) := by decide +kernel
theorem dX10_walk_5 : decode cX10_walk 5 = .ok (.invokevirtual 110, 3) := by decide +kernel
theorem dX10_walk_8 : decode cX10_walk 8 = .ok (.astore 7, 2) := by decide +kernel
theorem dX10_walk_10 : decode cX10_walk 10 = .ok (.aload 7, 2) := by decide +kernel
theorem dX10_walk_12 : decode cX10_walk 12 = .ok (.ifnull 22, 3) := by decide +kernel
theorem dX10_walk_34 : decode cX10_walk 34 = .ok (.ldc 218, 2) := by decide +kernel
theorem dX10_walk_36 : decode cX10_walk 36 = .ok (.ireturn, 1) := by decide +kernel
theorem dX10_drawn_0 : decode cX10_drawn 0 = .ok (.aload_n 0, 1) := by decide +kernel
theorem dX10_drawn_1 : decode cX10_drawn 1 = .ok (.getfield 19, 3) := by decide +kernel
theorem dX10_drawn_4 : decode cX10_drawn 4 = .ok (.iload_n 1, 1) := by decide +kernel
theorem dX10_drawn_5 : decode cX10_drawn 5 = .ok (.invokevirtual 110, 3) := by decide +kernel
theorem dX10_drawn_8 : decode cX10_drawn 8 = .ok (.astore 8, 2) := by decide +kernel
theorem dX10_drawn_10 : decode cX10_drawn 10 = .ok (.aload 8, 2) := by decide +kernel
theorem dX10_drawn_12 : decode cX10_drawn 12 = .ok (.ifnull 34, 3) := by decide +kernel
theorem dX10_drawn_46 : decode cX10_drawn 46 = .ok (.ldc 218, 2) := by decide +kernel
theorem dX10_drawn_48 : decode cX10_drawn 48 = .ok (.ireturn, 1) := by decide +kernel
theorem dX10_peak_0 : decode cX10_peak 0 = .ok (.aload_n 0, 1) := by decide +kernel
theorem dX10_peak_1 : decode cX10_peak 1 = .ok (.getfield 19, 3) := by decide +kernel
theorem dX10_peak_4 : decode cX10_peak 4 = .ok (.iload_n 1, 1) := by decide +kernel
theorem dX10_peak_5 : decode cX10_peak 5 = .ok (.invokevirtual 110, 3) := by decide +kernel
theorem dX10_peak_8 : decode cX10_peak 8 = .ok (.astore 4, 2) := by decide +kernel
theorem dX10_peak_10 : decode cX10_peak 10 = .ok (.aload 4, 2) := by decide +kernel
theorem dX10_peak_12 : decode cX10_peak 12 = .ok (.ifnull 22, 3) := by decide +kernel
theorem dX10_peak_34 : decode cX10_peak 34 = .ok (.ldc 218, 2) := by decide +kernel
theorem dX10_peak_36 : decode cX10_peak 36 = .ok (.ireturn, 1) := by decide +kernel
theorem dX10_points_0 : decode cX10_points 0 = .ok (.aload_n 0, 1) := by decide +kernel
theorem dX10_points_1 : decode cX10_points 1 = .ok (.getfield 19, 3) := by decide +kernel
theorem dX10_points_4 : decode cX10_points 4 = .ok (.iload_n 1, 1) := by decide +kernel
theorem dX10_points_5 : decode cX10_points 5 = .ok (.invokevirtual 110, 3) := by decide +kernel
theorem dX10_points_8 : decode cX10_points 8 = .ok (.astore_n 3, 1) := by decide +kernel
theorem dX10_points_9 : decode cX10_points 9 = .ok (.aload_n 3, 1) := by decide +kernel
theorem dX10_points_10 : decode cX10_points 10 = .ok (.ifnull 10, 3) := by decide +kernel
theorem dX10_points_20 : decode cX10_points 20 = .ok (.iconst (-1), 1) := by decide +kernel
theorem dX10_points_21 : decode cX10_points 21 = .ok (.ireturn, 1) := by decide +kernel
theorem dX10_fewest_0 : decode cX10_fewest 0 = .ok (.aload_n 0, 1) := by decide +kernel
theorem dX10_fewest_1 : decode cX10_fewest 1 = .ok (.getfield 19, 3) := by decide +kernel
theorem dX10_fewest_4 : decode cX10_fewest 4 = .ok (.iload_n 1, 1) := by decide +kernel
theorem dX10_fewest_5 : decode cX10_fewest 5 = .ok (.invokevirtual 110, 3) := by decide +kernel
theorem dX10_fewest_8 : decode cX10_fewest 8 = .ok (.astore 4, 2) := by decide +kernel
theorem dX10_fewest_10 : decode cX10_fewest 10 = .ok (.aload 4, 2) := by decide +kernel
theorem dX10_fewest_12 : decode cX10_fewest 12 = .ok (.ifnull 11, 3) := by decide +kernel
theorem dX10_fewest_23 : decode cX10_fewest 23 = .ok (.iconst (-1), 1) := by decide +kernel
theorem dX10_fewest_24 : decode cX10_fewest 24 = .ok (.ireturn, 1) := by decide +kernel
theorem dX10_period_0 : decode cX10_period 0 = .ok (.aload_n 0, 1) := by decide +kernel
theorem dX10_period_1 : decode cX10_period 1 = .ok (.getfield 19, 3) := by decide +kernel
theorem dX10_period_4 : decode cX10_period 4 = .ok (.iload_n 1, 1) := by decide +kernel
theorem dX10_period_5 : decode cX10_period 5 = .ok (.invokevirtual 110, 3) := by decide +kernel
theorem dX10_period_8 : decode cX10_period 8 = .ok (.astore_n 2, 1) := by decide +kernel
theorem dX10_period_9 : decode cX10_period 9 = .ok (.aload_n 2, 1) := by decide +kernel
theorem dX10_period_10 : decode cX10_period 10 = .ok (.ifnonnull 5, 3) := by decide +kernel
theorem dX10_period_13 : decode cX10_period 13 = .ok (.iconst (-1), 1) := by decide +kernel
theorem dX10_period_14 : decode cX10_period 14 = .ok (.ireturn, 1) := by decide +kernel
theorem dX10_meet_0 : decode cX10_meet 0 = .ok (.aload_n 0, 1) := by decide +kernel
theorem dX10_meet_1 : decode cX10_meet 1 = .ok (.getfield 19, 3) := by decide +kernel
theorem dX10_meet_4 : decode cX10_meet 4 = .ok (.iload_n 1, 1) := by decide +kernel
theorem dX10_meet_5 : decode cX10_meet 5 = .ok (.invokevirtual 110, 3) := by decide +kernel
theorem dX10_meet_8 : decode cX10_meet 8 = .ok (.astore 4, 2) := by decide +kernel
theorem dX10_meet_10 : decode cX10_meet 10 = .ok (.aload_n 0, 1) := by decide +kernel
theorem dX10_meet_11 : decode cX10_meet 11 = .ok (.getfield 19, 3) := by decide +kernel
theorem dX10_meet_14 : decode cX10_meet 14 = .ok (.iload_n 2, 1) := by decide +kernel
theorem dX10_meet_15 : decode cX10_meet 15 = .ok (.invokevirtual 110, 3) := by decide +kernel
theorem dX10_meet_18 : decode cX10_meet 18 = .ok (.astore 5, 2) := by decide +kernel
theorem dX10_meet_20 : decode cX10_meet 20 = .ok (.aload 4, 2) := by decide +kernel
theorem dX10_meet_22 : decode cX10_meet 22 = .ok (.ifnull 15, 3) := by decide +kernel
theorem dX10_meet_37 : decode cX10_meet 37 = .ok (.iconst (-1), 1) := by decide +kernel
theorem dX10_meet_38 : decode cX10_meet 38 = .ok (.ireturn, 1) := by decide +kernel
theorem dX10_kernel_0 : decode cX10_kernel 0 = .ok (.aload_n 0, 1) := by decide +kernel
theorem dX10_kernel_1 : decode cX10_kernel 1 = .ok (.getfield 19, 3) := by decide +kernel
theorem dX10_kernel_4 : decode cX10_kernel 4 = .ok (.iload_n 1, 1) := by decide +kernel
theorem dX10_kernel_5 : decode cX10_kernel 5 = .ok (.invokevirtual 110, 3) := by decide +kernel
theorem dX10_kernel_8 : decode cX10_kernel 8 = .ok (.astore 4, 2) := by decide +kernel
theorem dX10_kernel_10 : decode cX10_kernel 10 = .ok (.aload 4, 2) := by decide +kernel
theorem dX10_kernel_12 : decode cX10_kernel 12 = .ok (.ifnull 17, 3) := by decide +kernel
theorem dX10_kernel_29 : decode cX10_kernel 29 = .ok (.iconst (-1), 1) := by decide +kernel
theorem dX10_kernel_30 : decode cX10_kernel 30 = .ok (.ireturn, 1) := by decide +kernel
theorem dX10_turned_0 : decode cX10_turned 0 = .ok (.aload_n 0, 1) := by decide +kernel
theorem dX10_turned_1 : decode cX10_turned 1 = .ok (.getfield 19, 3) := by decide +kernel
theorem dX10_turned_4 : decode cX10_turned 4 = .ok (.iload_n 1, 1) := by decide +kernel
theorem dX10_turned_5 : decode cX10_turned 5 = .ok (.invokevirtual 110, 3) := by decide +kernel
theorem dX10_turned_8 : decode cX10_turned 8 = .ok (.astore 5, 2) := by decide +kernel
theorem dX10_turned_10 : decode cX10_turned 10 = .ok (.aload 5, 2) := by decide +kernel
theorem dX10_turned_12 : decode cX10_turned 12 = .ok (.ifnull 27, 3) := by decide +kernel
theorem dX10_turned_39 : decode cX10_turned 39 = .ok (.iconst (-1), 1) := by decide +kernel
theorem dX10_turned_40 : decode cX10_turned 40 = .ok (.ireturn, 1) := by decide +kernel
theorem dX10_orbit_0 : decode cX10_orbit 0 = .ok (.aload_n 0, 1) := by decide +kernel
theorem dX10_orbit_1 : decode cX10_orbit 1 = .ok (.getfield 19, 3) := by decide +kernel
theorem dX10_orbit_4 : decode cX10_orbit 4 = .ok (.iload_n 1, 1) := by decide +kernel
theorem dX10_orbit_5 : decode cX10_orbit 5 = .ok (.invokevirtual 110, 3) := by decide +kernel
theorem dX10_orbit_8 : decode cX10_orbit 8 = .ok (.astore 6, 2) := by decide +kernel
theorem dX10_orbit_10 : decode cX10_orbit 10 = .ok (.iload 4, 2) := by decide +kernel
theorem dX10_orbit_12 : decode cX10_orbit 12 = .ok (.iconst (-1), 1) := by decide +kernel
theorem dX10_orbit_13 : decode cX10_orbit 13 = .ok (.if_icmp .eq 13, 3) := by decide +kernel
theorem dX10_orbit_26 : decode cX10_orbit 26 = .ok (.iconst 1, 1) := by decide +kernel
theorem dX10_orbit_27 : decode cX10_orbit 27 = .ok (.goto 4, 3) := by decide +kernel
theorem dX10_orbit_31 : decode cX10_orbit 31 = .ok (.istore 7, 2) := by decide +kernel
theorem dX10_orbit_33 : decode cX10_orbit 33 = .ok (.aload 6, 2) := by decide +kernel
theorem dX10_orbit_35 : decode cX10_orbit 35 = .ok (.ifnull 22, 3) := by decide +kernel
theorem dX10_orbit_57 : decode cX10_orbit 57 = .ok (.bipush (-2), 2) := by decide +kernel
theorem dX10_orbit_59 : decode cX10_orbit 59 = .ok (.ireturn, 1) := by decide +kernel
theorem dX10_orbit_16 : decode cX10_orbit 16 = .ok (.iload 5, 2) := by decide +kernel
theorem dX10_orbit_18 : decode cX10_orbit 18 = .ok (.iconst 0, 1) := by decide +kernel
theorem dX10_orbit_19 : decode cX10_orbit 19 = .ok (.iconst 1, 1) := by decide +kernel
theorem dX10_orbit_20 : decode cX10_orbit 20 = .ok (.invokestatic 87, 3) := by decide +kernel
theorem w_425 : Cond.methodLink "QuarterWalks" 87 yX10_within ∈ wAll := wIn 425 (by decide +kernel) (by decide +kernel)
theorem dX10_orbit_23 : decode cX10_orbit 23 = .ok (.ifCond .eq 7, 3) := by decide +kernel
theorem dX10_orbit_30 : decode cX10_orbit 30 = .ok (.iconst 0, 1) := by decide +kernel
theorem dX10_group_0 : decode cX10_group 0 = .ok (.aload_n 0, 1) := by decide +kernel
theorem dX10_group_1 : decode cX10_group 1 = .ok (.getfield 19, 3) := by decide +kernel
theorem dX10_group_4 : decode cX10_group 4 = .ok (.iload_n 1, 1) := by decide +kernel
theorem dX10_group_5 : decode cX10_group 5 = .ok (.invokevirtual 110, 3) := by decide +kernel
theorem dX10_group_8 : decode cX10_group 8 = .ok (.astore_n 2, 1) := by decide +kernel
theorem dX10_group_9 : decode cX10_group 9 = .ok (.aload_n 2, 1) := by decide +kernel
theorem dX10_group_10 : decode cX10_group 10 = .ok (.ifnonnull 8, 3) := by decide +kernel
theorem dX10_group_13 : decode cX10_group 13 = .ok (.bipush (-2), 2) := by decide +kernel
theorem dX10_group_15 : decode cX10_group 15 = .ok (.goto 11, 3) := by decide +kernel
theorem dX10_group_26 : decode cX10_group 26 = .ok (.ireturn, 1) := by decide +kernel
theorem dX10_sum_0 : decode cX10_sum 0 = .ok (.aload_n 0, 1) := by decide +kernel
theorem dX10_sum_1 : decode cX10_sum 1 = .ok (.getfield 19, 3) := by decide +kernel
theorem dX10_sum_4 : decode cX10_sum 4 = .ok (.iload_n 1, 1) := by decide +kernel
theorem dX10_sum_5 : decode cX10_sum 5 = .ok (.invokevirtual 110, 3) := by decide +kernel
theorem dX10_sum_8 : decode cX10_sum 8 = .ok (.astore 4, 2) := by decide +kernel
theorem dX10_sum_10 : decode cX10_sum 10 = .ok (.aload 4, 2) := by decide +kernel
theorem dX10_sum_12 : decode cX10_sum 12 = .ok (.ifnull 17, 3) := by decide +kernel
theorem dX10_sum_29 : decode cX10_sum 29 = .ok (.bipush (-2), 2) := by decide +kernel
theorem dX10_sum_31 : decode cX10_sum 31 = .ok (.ireturn, 1) := by decide +kernel
theorem dX10_noUse_0 : decode cX10_noUse 0 = .ok (.aload_n 0, 1) := by decide +kernel
theorem dX10_noUse_1 : decode cX10_noUse 1 = .ok (.getfield 19, 3) := by decide +kernel
theorem dX10_noUse_4 : decode cX10_noUse 4 = .ok (.iload_n 1, 1) := by decide +kernel
theorem dX10_noUse_5 : decode cX10_noUse 5 = .ok (.invokevirtual 110, 3) := by decide +kernel
theorem dX10_noUse_8 : decode cX10_noUse 8 = .ok (.astore_n 2, 1) := by decide +kernel
theorem dX10_noUse_9 : decode cX10_noUse 9 = .ok (.aload_n 2, 1) := by decide +kernel
theorem dX10_noUse_10 : decode cX10_noUse 10 = .ok (.ifnonnull 5, 3) := by decide +kernel
theorem dX10_noUse_13 : decode cX10_noUse 13 = .ok (.iconst (-1), 1) := by decide +kernel
theorem dX10_noUse_14 : decode cX10_noUse 14 = .ok (.ireturn, 1) := by decide +kernel
theorem dX10_enough_0 : decode cX10_enough 0 = .ok (.aload_n 0, 1) := by decide +kernel
theorem dX10_enough_1 : decode cX10_enough 1 = .ok (.getfield 19, 3) := by decide +kernel
theorem dX10_enough_4 : decode cX10_enough 4 = .ok (.iload_n 1, 1) := by decide +kernel
theorem dX10_enough_5 : decode cX10_enough 5 = .ok (.invokevirtual 110, 3) := by decide +kernel
theorem dX10_enough_8 : decode cX10_enough 8 = .ok (.astore_n 2, 1) := by decide +kernel
theorem dX10_enough_9 : decode cX10_enough 9 = .ok (.aload_n 2, 1) := by decide +kernel
theorem dX10_enough_10 : decode cX10_enough 10 = .ok (.ifnonnull 5, 3) := by decide +kernel
theorem dX10_enough_13 : decode cX10_enough 13 = .ok (.iconst (-1), 1) := by decide +kernel
theorem dX10_enough_14 : decode cX10_enough 14 = .ok (.ireturn, 1) := by decide +kernel
theorem dX10_alike_0 : decode cX10_alike 0 = .ok (.aload_n 0, 1) := by decide +kernel
theorem dX10_alike_1 : decode cX10_alike 1 = .ok (.getfield 19, 3) := by decide +kernel
theorem dX10_alike_4 : decode cX10_alike 4 = .ok (.iload_n 1, 1) := by decide +kernel
theorem dX10_alike_5 : decode cX10_alike 5 = .ok (.invokevirtual 110, 3) := by decide +kernel
theorem dX10_alike_8 : decode cX10_alike 8 = .ok (.astore_n 2, 1) := by decide +kernel
theorem dX10_alike_9 : decode cX10_alike 9 = .ok (.aload_n 2, 1) := by decide +kernel
theorem dX10_alike_10 : decode cX10_alike 10 = .ok (.ifnonnull 5, 3) := by decide +kernel
theorem dX10_alike_13 : decode cX10_alike 13 = .ok (.iconst (-1), 1) := by decide +kernel
theorem dX10_alike_14 : decode cX10_alike 14 = .ok (.ireturn, 1) := by decide +kernel
theorem dX10_recurrence_0 : decode cX10_recurrence 0 = .ok (.aload_n 0, 1) := by decide +kernel
theorem dX10_recurrence_1 : decode cX10_recurrence 1 = .ok (.iload_n 1, 1) := by decide +kernel
theorem dX10_recurrence_2 : decode cX10_recurrence 2 = .ok (.iload_n 2, 1) := by decide +kernel
theorem dX10_recurrence_3 : decode cX10_recurrence 3 = .ok (.iconst 0, 1) := by decide +kernel
theorem dX10_recurrence_4 : decode cX10_recurrence 4 = .ok (.iload_n 3, 1) := by decide +kernel
theorem dX10_recurrence_5 : decode cX10_recurrence 5 = .ok (.iload 4, 2) := by decide +kernel
theorem dX10_recurrence_7 : decode cX10_recurrence 7 = .ok (.invokevirtual 328, 3) := by decide +kernel
theorem w_1026 : Cond.methodLink "QuarterWalks" 328 yX10_readies ∈ wAll := wIn 1026 (by decide +kernel) (by decide +kernel)
theorem w_27 : Cond.selects yX10_readies.cls yX10_readies yX10_readies ∈ wAll := wIn 27 (by decide +kernel) (by decide +kernel)
theorem mk_X10_readies : mk yX10_readies 5 := ⟨by decide +kernel, w_96⟩
theorem w_1028 : Cond.instanceMethod yX10_readies ∈ wAll := wIn 1028 (by decide +kernel) (by decide +kernel)
theorem w_1029 : Cond.code yX10_readies cX10_readies 7 (some .boolean) ∈ wAll := wIn 1029 (by decide +kernel) (by decide +kernel)
theorem dX10_recurrence_10 : decode cX10_recurrence 10 = .ok (.istore 7, 2) := by decide +kernel
theorem dX10_recurrence_12 : decode cX10_recurrence 12 = .ok (.iload 7, 2) := by decide +kernel
theorem dX10_recurrence_14 : decode cX10_recurrence 14 = .ok (.ifCond .eq 41, 3) := by decide +kernel
theorem dX10_recurrence_55 : decode cX10_recurrence 55 = .ok (.ldc 218, 2) := by decide +kernel
theorem dX10_recurrence_57 : decode cX10_recurrence 57 = .ok (.ireturn, 1) := by decide +kernel
theorem dX10_fails_0 : decode cX10_fails 0 = .ok (.aload_n 0, 1) := by decide +kernel
theorem dX10_fails_1 : decode cX10_fails 1 = .ok (.iload_n 1, 1) := by decide +kernel
theorem dX10_fails_2 : decode cX10_fails 2 = .ok (.iload_n 2, 1) := by decide +kernel
theorem dX10_fails_3 : decode cX10_fails 3 = .ok (.iconst 0, 1) := by decide +kernel
theorem dX10_fails_4 : decode cX10_fails 4 = .ok (.iload_n 3, 1) := by decide +kernel
theorem dX10_fails_5 : decode cX10_fails 5 = .ok (.iload 4, 2) := by decide +kernel
theorem dX10_fails_7 : decode cX10_fails 7 = .ok (.invokevirtual 328, 3) := by decide +kernel
theorem dX10_fails_10 : decode cX10_fails 10 = .ok (.ifCond .eq 16, 3) := by decide +kernel
theorem dX10_fails_26 : decode cX10_fails 26 = .ok (.ldc 218, 2) := by decide +kernel
theorem dX10_fails_28 : decode cX10_fails 28 = .ok (.ireturn, 1) := by decide +kernel
theorem dX10_equation_0 : decode cX10_equation 0 = .ok (.aload_n 0, 1) := by decide +kernel
theorem dX10_equation_1 : decode cX10_equation 1 = .ok (.iload_n 1, 1) := by decide +kernel
theorem dX10_equation_2 : decode cX10_equation 2 = .ok (.iload_n 2, 1) := by decide +kernel
theorem dX10_equation_3 : decode cX10_equation 3 = .ok (.iconst 1, 1) := by decide +kernel
theorem dX10_equation_4 : decode cX10_equation 4 = .ok (.iload_n 3, 1) := by decide +kernel
theorem dX10_equation_5 : decode cX10_equation 5 = .ok (.iload 4, 2) := by decide +kernel
theorem dX10_equation_7 : decode cX10_equation 7 = .ok (.invokevirtual 328, 3) := by decide +kernel
theorem dX10_equation_10 : decode cX10_equation 10 = .ok (.istore 7, 2) := by decide +kernel
theorem dX10_equation_12 : decode cX10_equation 12 = .ok (.iload 7, 2) := by decide +kernel
theorem dX10_equation_14 : decode cX10_equation 14 = .ok (.ifCond .eq 41, 3) := by decide +kernel
theorem dX10_equation_55 : decode cX10_equation 55 = .ok (.ldc 218, 2) := by decide +kernel
theorem dX10_equation_57 : decode cX10_equation 57 = .ok (.ireturn, 1) := by decide +kernel
theorem dX10_breaks_0 : decode cX10_breaks 0 = .ok (.aload_n 0, 1) := by decide +kernel
theorem dX10_breaks_1 : decode cX10_breaks 1 = .ok (.iload_n 1, 1) := by decide +kernel
theorem dX10_breaks_2 : decode cX10_breaks 2 = .ok (.iload_n 2, 1) := by decide +kernel
theorem dX10_breaks_3 : decode cX10_breaks 3 = .ok (.iconst 1, 1) := by decide +kernel
theorem dX10_breaks_4 : decode cX10_breaks 4 = .ok (.iload_n 3, 1) := by decide +kernel
theorem dX10_breaks_5 : decode cX10_breaks 5 = .ok (.iload 4, 2) := by decide +kernel
theorem dX10_breaks_7 : decode cX10_breaks 7 = .ok (.invokevirtual 328, 3) := by decide +kernel
theorem dX10_breaks_10 : decode cX10_breaks 10 = .ok (.ifCond .eq 16, 3) := by decide +kernel
theorem dX10_breaks_26 : decode cX10_breaks 26 = .ok (.ldc 218, 2) := by decide +kernel
theorem dX10_breaks_28 : decode cX10_breaks 28 = .ok (.ireturn, 1) := by decide +kernel
theorem dX10_least_0 : decode cX10_least 0 = .ok (.aload_n 0, 1) := by decide +kernel
theorem dX10_least_1 : decode cX10_least 1 = .ok (.getfield 19, 3) := by decide +kernel
theorem dX10_least_4 : decode cX10_least 4 = .ok (.iload_n 1, 1) := by decide +kernel
theorem dX10_least_5 : decode cX10_least 5 = .ok (.invokevirtual 110, 3) := by decide +kernel
theorem dX10_least_8 : decode cX10_least 8 = .ok (.astore 4, 2) := by decide +kernel
theorem dX10_least_10 : decode cX10_least 10 = .ok (.aload 4, 2) := by decide +kernel
theorem dX10_least_12 : decode cX10_least 12 = .ok (.ifnull 19, 3) := by decide +kernel
theorem dX10_least_31 : decode cX10_least 31 = .ok (.ldc 218, 2) := by decide +kernel
theorem dX10_least_33 : decode cX10_least 33 = .ok (.ireturn, 1) := by decide +kernel
theorem dX10_written_0 : decode cX10_written 0 = .ok (.aload_n 0, 1) := by decide +kernel
theorem dX10_written_1 : decode cX10_written 1 = .ok (.getfield 19, 3) := by decide +kernel
theorem dX10_written_4 : decode cX10_written 4 = .ok (.iload_n 1, 1) := by decide +kernel
theorem dX10_written_5 : decode cX10_written 5 = .ok (.invokevirtual 110, 3) := by decide +kernel
theorem dX10_written_8 : decode cX10_written 8 = .ok (.astore_n 3, 1) := by decide +kernel
theorem dX10_written_9 : decode cX10_written 9 = .ok (.aload_n 3, 1) := by decide +kernel
theorem dX10_written_10 : decode cX10_written 10 = .ok (.ifnonnull 5, 3) := by decide +kernel
theorem dX10_written_13 : decode cX10_written 13 = .ok (.iconst (-1), 1) := by decide +kernel
theorem dX10_written_14 : decode cX10_written 14 = .ok (.ireturn, 1) := by decide +kernel
