theorem dX10_within_0 : decode cX10_within 0 = .ok (.iload_n 0, 1) := by decide +kernel
theorem dX10_within_1 : decode cX10_within 1 = .ok (.iload_n 1, 1) := by decide +kernel
theorem dX10_within_2 : decode cX10_within 2 = .ok (.if_icmp .lt 12, 3) := by decide +kernel
theorem dX10_within_14 : decode cX10_within 14 = .ok (.iconst 0, 1) := by decide +kernel
theorem dX10_within_15 : decode cX10_within 15 = .ok (.ireturn, 1) := by decide +kernel
theorem dX10_within_5 : decode cX10_within 5 = .ok (.iload_n 0, 1) := by decide +kernel
theorem dX10_within_6 : decode cX10_within 6 = .ok (.iload_n 2, 1) := by decide +kernel
theorem dX10_within_7 : decode cX10_within 7 = .ok (.if_icmp .gt 7, 3) := by decide +kernel
theorem dX10_within_10 : decode cX10_within 10 = .ok (.iconst 1, 1) := by decide +kernel
theorem dX10_within_11 : decode cX10_within 11 = .ok (.goto 4, 3) := by decide +kernel
theorem dX11_isIn_0 : decode cX11_isIn 0 = .ok (.lload_n 0, 1) := by decide +kernel
theorem dX11_isIn_1 : decode cX11_isIn 1 = .ok (.lload_n 2, 1) := by decide +kernel
theorem dX11_isIn_2 : decode cX11_isIn 2 = .ok (.lcmp, 1) := by decide +kernel
theorem dX11_isIn_3 : decode cX11_isIn 3 = .ok (.ifCond .lt 14, 3) := by decide +kernel
theorem dX11_isIn_17 : decode cX11_isIn 17 = .ok (.iconst 0, 1) := by decide +kernel
theorem dX11_isIn_18 : decode cX11_isIn 18 = .ok (.ireturn, 1) := by decide +kernel
theorem dX11_isIn_6 : decode cX11_isIn 6 = .ok (.lload_n 0, 1) := by decide +kernel
theorem dX11_isIn_7 : decode cX11_isIn 7 = .ok (.lload 4, 2) := by decide +kernel
theorem dX11_isIn_9 : decode cX11_isIn 9 = .ok (.lcmp, 1) := by decide +kernel
theorem dX11_isIn_10 : decode cX11_isIn 10 = .ok (.ifCond .gt 7, 3) := by decide +kernel
theorem dX11_isIn_13 : decode cX11_isIn 13 = .ok (.iconst 1, 1) := by decide +kernel
theorem dX11_isIn_14 : decode cX11_isIn 14 = .ok (.goto 4, 3) := by decide +kernel
theorem dX0_find_0 : decode cX0_find 0 = .ok (.iload_n 1, 1) := by decide +kernel
theorem dX0_find_1 : decode cX0_find 1 = .ok (.iconst 0, 1) := by decide +kernel
theorem dX0_find_2 : decode cX0_find 2 = .ok (.aload_n 0, 1) := by decide +kernel
theorem dX0_find_3 : decode cX0_find 3 = .ok (.getfield 12, 3) := by decide +kernel
theorem w_193 : Cond.lays "QuarterWalks$Book" "QuarterWalks$Book" "past" "I" ∈ wAll := wIn 193 (by decide +kernel) (by decide +kernel)
theorem w_195 : Cond.laysFinal "QuarterWalks$Book" "QuarterWalks$Book" "now" "LQuarterWalks$Shelf;" ∈ wAll := wIn 195 (by decide +kernel) (by decide +kernel)
theorem w_197 : Cond.laysFinal "QuarterWalks$Book" "QuarterWalks$Book" "kept" "LQuarterWalks$Shelf;" ∈ wAll := wIn 197 (by decide +kernel) (by decide +kernel)
theorem w_199 : Cond.laysFinal "QuarterWalks$Book" "QuarterWalks$Book" "before" "[LQuarterWalks$Shelf;" ∈ wAll := wIn 199 (by decide +kernel) (by decide +kernel)
theorem w_201 : Cond.lays "QuarterWalks$Book" "QuarterWalks$Book" "isKept" "Z" ∈ wAll := wIn 201 (by decide +kernel) (by decide +kernel)
theorem w_203 : Cond.lays "QuarterWalks$Book" "QuarterWalks$Book" "next" "I" ∈ wAll := wIn 203 (by decide +kernel) (by decide +kernel)
theorem inA_X0 : ∀ w ∈ u_ws RX0 TX0 6, w ∈ wAll := List.forall_mem_cons.mpr ⟨w_193, List.forall_mem_cons.mpr ⟨w_195, List.forall_mem_cons.mpr ⟨w_197, List.forall_mem_cons.mpr ⟨w_199, List.forall_mem_cons.mpr ⟨w_201, List.forall_mem_cons.mpr ⟨w_203, fun _ h => absurd h List.not_mem_nil⟩⟩⟩⟩⟩⟩
theorem w_188 : Cond.fieldLink "QuarterWalks$Book" 12 "QuarterWalks$Book" "now" "LQuarterWalks$Shelf;" ∈ wAll := wIn 188 (by decide +kernel) (by decide +kernel)
theorem fl_X0_12 : fl RX0 12 1 1 := ⟨RX0, TX0, 6, rfl, inA_X0, by decide, w_188⟩
theorem dX0_find_6 : decode cX0_find 6 = .ok (.getfield 25, 3) := by decide +kernel
theorem w_180 : Cond.laysFinal "QuarterWalks$Shelf" "QuarterWalks$Shelf" "sets" "[LQuarterWalks$StepSet;" ∈ wAll := wIn 180 (by decide +kernel) (by decide +kernel)
theorem w_182 : Cond.lays "QuarterWalks$Shelf" "QuarterWalks$Shelf" "size" "I" ∈ wAll := wIn 182 (by decide +kernel) (by decide +kernel)
theorem inA_X5 : ∀ w ∈ u_ws RX5 TX5 2, w ∈ wAll := List.forall_mem_cons.mpr ⟨w_180, List.forall_mem_cons.mpr ⟨w_182, fun _ h => absurd h List.not_mem_nil⟩⟩
theorem w_178 : Cond.fieldLink "QuarterWalks$Book" 25 "QuarterWalks$Shelf" "size" "I" ∈ wAll := wIn 178 (by decide +kernel) (by decide +kernel)
theorem fl_X0_25 : fl RX0 25 6 1 := ⟨RX5, TX5, 2, rfl, inA_X5, by decide, w_178⟩
theorem dX0_find_9 : decode cX0_find 9 = .ok (.iconst 1, 1) := by decide +kernel
theorem dX0_find_10 : decode cX0_find 10 = .ok (.isub, 1) := by decide +kernel
theorem dX0_find_11 : decode cX0_find 11 = .ok (.invokestatic 29, 3) := by decide +kernel
theorem w_96 : Cond.initialized "QuarterWalks" ∈ wAll := wIn 96 (by decide +kernel) (by decide +kernel)
theorem mk_X10_within : mk yX10_within 3 := ⟨by decide +kernel, w_96⟩
theorem w_426 : Cond.static yX10_within ∈ wAll := wIn 426 (by decide +kernel) (by decide +kernel)
theorem w_427 : Cond.code yX10_within cX10_within 3 (some .boolean) ∈ wAll := wIn 427 (by decide +kernel) (by decide +kernel)
theorem dX0_find_14 : decode cX0_find 14 = .ok (.ifCond .eq 15, 3) := by decide +kernel
theorem dX0_find_29 : decode cX0_find 29 = .ok (.aconst_null, 1) := by decide +kernel
theorem dX0_find_30 : decode cX0_find 30 = .ok (.areturn, 1) := by decide +kernel
theorem dX11_isSet_0 : decode cX11_isSet 0 = .ok (.iload_n 1, 1) := by decide +kernel
theorem dX11_isSet_1 : decode cX11_isSet 1 = .ok (.i2l, 1) := by decide +kernel
theorem dX11_isSet_2 : decode cX11_isSet 2 = .ok (.lconst 0, 1) := by decide +kernel
theorem dX11_isSet_3 : decode cX11_isSet 3 = .ok (.aload_n 0, 1) := by decide +kernel
theorem dX11_isSet_4 : decode cX11_isSet 4 = .ok (.getfield 17, 3) := by decide +kernel
theorem w_1465 : Cond.lays "QuarterWalksModel" "QuarterWalksModel" "thrown" "I" ∈ wAll := wIn 1465 (by decide +kernel) (by decide +kernel)
theorem w_1467 : Cond.laysFinal "QuarterWalksModel" "QuarterWalksModel" "tape" "[B" ∈ wAll := wIn 1467 (by decide +kernel) (by decide +kernel)
theorem w_1469 : Cond.lays "QuarterWalksModel" "QuarterWalksModel" "length" "I" ∈ wAll := wIn 1469 (by decide +kernel) (by decide +kernel)
theorem w_1471 : Cond.lays "QuarterWalksModel" "QuarterWalksModel" "at" "I" ∈ wAll := wIn 1471 (by decide +kernel) (by decide +kernel)
theorem w_1473 : Cond.lays "QuarterWalksModel" "QuarterWalksModel" "fault" "I" ∈ wAll := wIn 1473 (by decide +kernel) (by decide +kernel)
theorem w_1475 : Cond.laysFinal "QuarterWalksModel" "QuarterWalksModel" "read" "[I" ∈ wAll := wIn 1475 (by decide +kernel) (by decide +kernel)
theorem w_1477 : Cond.laysFinal "QuarterWalksModel" "QuarterWalksModel" "book" "[I" ∈ wAll := wIn 1477 (by decide +kernel) (by decide +kernel)
theorem w_1479 : Cond.laysFinal "QuarterWalksModel" "QuarterWalksModel" "image" "[I" ∈ wAll := wIn 1479 (by decide +kernel) (by decide +kernel)
theorem w_1481 : Cond.laysFinal "QuarterWalksModel" "QuarterWalksModel" "kept" "[I" ∈ wAll := wIn 1481 (by decide +kernel) (by decide +kernel)
theorem w_1483 : Cond.laysFinal "QuarterWalksModel" "QuarterWalksModel" "refused" "[I" ∈ wAll := wIn 1483 (by decide +kernel) (by decide +kernel)
theorem w_1485 : Cond.lays "QuarterWalksModel" "QuarterWalksModel" "acts" "I" ∈ wAll := wIn 1485 (by decide +kernel) (by decide +kernel)
theorem w_1487 : Cond.lays "QuarterWalksModel" "QuarterWalksModel" "hasImage" "Z" ∈ wAll := wIn 1487 (by decide +kernel) (by decide +kernel)
theorem w_1489 : Cond.lays "QuarterWalksModel" "QuarterWalksModel" "grid" "[J" ∈ wAll := wIn 1489 (by decide +kernel) (by decide +kernel)
theorem w_1491 : Cond.lays "QuarterWalksModel" "QuarterWalksModel" "next" "[J" ∈ wAll := wIn 1491 (by decide +kernel) (by decide +kernel)
theorem w_1493 : Cond.lays "QuarterWalksModel" "QuarterWalksModel" "gone" "I" ∈ wAll := wIn 1493 (by decide +kernel) (by decide +kernel)
theorem w_1495 : Cond.laysFinal "QuarterWalksModel" "QuarterWalksModel" "term" "[I" ∈ wAll := wIn 1495 (by decide +kernel) (by decide +kernel)
theorem w_1497 : Cond.laysFinal "QuarterWalksModel" "QuarterWalksModel" "other" "[I" ∈ wAll := wIn 1497 (by decide +kernel) (by decide +kernel)
theorem w_1499 : Cond.laysFinal "QuarterWalksModel" "QuarterWalksModel" "table" "[J" ∈ wAll := wIn 1499 (by decide +kernel) (by decide +kernel)
theorem w_1501 : Cond.lays "QuarterWalksModel" "QuarterWalksModel" "determinant" "J" ∈ wAll := wIn 1501 (by decide +kernel) (by decide +kernel)
theorem w_1503 : Cond.laysFinal "QuarterWalksModel" "QuarterWalksModel" "held" "[J" ∈ wAll := wIn 1503 (by decide +kernel) (by decide +kernel)
theorem w_1505 : Cond.laysFinal "QuarterWalksModel" "QuarterWalksModel" "orbitX" "[I" ∈ wAll := wIn 1505 (by decide +kernel) (by decide +kernel)
theorem w_1507 : Cond.laysFinal "QuarterWalksModel" "QuarterWalksModel" "orbitY" "[I" ∈ wAll := wIn 1507 (by decide +kernel) (by decide +kernel)
theorem w_1509 : Cond.laysFinal "QuarterWalksModel" "QuarterWalksModel" "column" "[J" ∈ wAll := wIn 1509 (by decide +kernel) (by decide +kernel)
theorem w_1511 : Cond.laysFinal "QuarterWalksModel" "QuarterWalksModel" "reduced" "[J" ∈ wAll := wIn 1511 (by decide +kernel) (by decide +kernel)
theorem w_1513 : Cond.laysFinal "QuarterWalksModel" "QuarterWalksModel" "made" "[J" ∈ wAll := wIn 1513 (by decide +kernel) (by decide +kernel)
theorem w_1515 : Cond.laysFinal "QuarterWalksModel" "QuarterWalksModel" "told" "[J" ∈ wAll := wIn 1515 (by decide +kernel) (by decide +kernel)
theorem w_1517 : Cond.laysFinal "QuarterWalksModel" "QuarterWalksModel" "leads" "[I" ∈ wAll := wIn 1517 (by decide +kernel) (by decide +kernel)
theorem w_1519 : Cond.lays "QuarterWalksModel" "QuarterWalksModel" "columns" "I" ∈ wAll := wIn 1519 (by decide +kernel) (by decide +kernel)
theorem w_1521 : Cond.lays "QuarterWalksModel" "QuarterWalksModel" "rows" "I" ∈ wAll := wIn 1521 (by decide +kernel) (by decide +kernel)
theorem w_1523 : Cond.laysFinal "QuarterWalksModel" "QuarterWalksModel" "powers" "[J" ∈ wAll := wIn 1523 (by decide +kernel) (by decide +kernel)
theorem w_1525 : Cond.laysFinal "QuarterWalksModel" "QuarterWalksModel" "said" "[I" ∈ wAll := wIn 1525 (by decide +kernel) (by decide +kernel)
theorem w_1527 : Cond.lays "QuarterWalksModel" "QuarterWalksModel" "says" "I" ∈ wAll := wIn 1527 (by decide +kernel) (by decide +kernel)
theorem inA_X11 : ∀ w ∈ u_ws RX11 TX11 32, w ∈ wAll := List.forall_mem_cons.mpr ⟨w_1465, List.forall_mem_cons.mpr ⟨w_1467, List.forall_mem_cons.mpr ⟨w_1469, List.forall_mem_cons.mpr ⟨w_1471, List.forall_mem_cons.mpr ⟨w_1473, List.forall_mem_cons.mpr ⟨w_1475, List.forall_mem_cons.mpr ⟨w_1477, List.forall_mem_cons.mpr ⟨w_1479, List.forall_mem_cons.mpr ⟨w_1481, List.forall_mem_cons.mpr ⟨w_1483, List.forall_mem_cons.mpr ⟨w_1485, List.forall_mem_cons.mpr ⟨w_1487, List.forall_mem_cons.mpr ⟨w_1489, List.forall_mem_cons.mpr ⟨w_1491, List.forall_mem_cons.mpr ⟨w_1493, List.forall_mem_cons.mpr ⟨w_1495, List.forall_mem_cons.mpr ⟨w_1497, List.forall_mem_cons.mpr ⟨w_1499, List.forall_mem_cons.mpr ⟨w_1501, List.forall_mem_cons.mpr ⟨w_1503, List.forall_mem_cons.mpr ⟨w_1505, List.forall_mem_cons.mpr ⟨w_1507, List.forall_mem_cons.mpr ⟨w_1509, List.forall_mem_cons.mpr ⟨w_1511, List.forall_mem_cons.mpr ⟨w_1513, List.forall_mem_cons.mpr ⟨w_1515, List.forall_mem_cons.mpr ⟨w_1517, List.forall_mem_cons.mpr ⟨w_1519, List.forall_mem_cons.mpr ⟨w_1521, List.forall_mem_cons.mpr ⟨w_1523, List.forall_mem_cons.mpr ⟨w_1525, List.forall_mem_cons.mpr ⟨w_1527, fun _ h => absurd h List.not_mem_nil⟩⟩⟩⟩⟩⟩⟩⟩⟩⟩⟩⟩⟩⟩⟩⟩⟩⟩⟩⟩⟩⟩⟩⟩⟩⟩⟩⟩⟩⟩⟩⟩
theorem w_1439 : Cond.fieldLink "QuarterWalksModel" 17 "QuarterWalksModel" "book" "[I" ∈ wAll := wIn 1439 (by decide +kernel) (by decide +kernel)
theorem fl_X11_17 : fl RX11 17 12 6 := ⟨RX11, TX11, 32, rfl, inA_X11, by decide, w_1439⟩
theorem dX11_isSet_7 : decode cX11_isSet 7 = .ok (.bipush 80, 2) := by decide +kernel
theorem dX11_isSet_9 : decode cX11_isSet 9 = .ok (.iaload, 1) := by decide +kernel
theorem dX11_isSet_10 : decode cX11_isSet 10 = .ok (.iconst 1, 1) := by decide +kernel
theorem dX11_isSet_11 : decode cX11_isSet 11 = .ok (.isub, 1) := by decide +kernel
theorem dX11_isSet_12 : decode cX11_isSet 12 = .ok (.i2l, 1) := by decide +kernel
theorem dX11_isSet_13 : decode cX11_isSet 13 = .ok (.invokestatic 158, 3) := by decide +kernel
theorem w_1628 : Cond.methodLink "QuarterWalksModel" 158 yX11_isIn ∈ wAll := wIn 1628 (by decide +kernel) (by decide +kernel)
theorem w_110 : Cond.initialized "QuarterWalksModel" ∈ wAll := wIn 110 (by decide +kernel) (by decide +kernel)
theorem mk_X11_isIn : mk yX11_isIn 3 := ⟨by decide +kernel, w_110⟩
theorem w_1629 : Cond.static yX11_isIn ∈ wAll := wIn 1629 (by decide +kernel) (by decide +kernel)
theorem w_1630 : Cond.code yX11_isIn cX11_isIn 6 (some .boolean) ∈ wAll := wIn 1630 (by decide +kernel) (by decide +kernel)
theorem dX11_isSet_16 : decode cX11_isSet 16 = .ok (.ireturn, 1) := by decide +kernel
theorem dX10_refuse_0 : decode cX10_refuse 0 = .ok (.aload_n 0, 1) := by decide +kernel
theorem dX10_refuse_1 : decode cX10_refuse 1 = .ok (.getfield 60, 3) := by decide +kernel
theorem w_389 : Cond.laysFinal "QuarterWalks" "QuarterWalks" "tape" "LQuarterWalks$Tape;" ∈ wAll := wIn 389 (by decide +kernel) (by decide +kernel)
theorem w_391 : Cond.laysFinal "QuarterWalks" "QuarterWalks" "book" "LQuarterWalks$Book;" ∈ wAll := wIn 391 (by decide +kernel) (by decide +kernel)
theorem w_393 : Cond.laysFinal "QuarterWalks" "QuarterWalks" "grid" "LQuarterWalks$Grid;" ∈ wAll := wIn 393 (by decide +kernel) (by decide +kernel)
theorem w_395 : Cond.laysFinal "QuarterWalks" "QuarterWalks" "ways" "LQuarterWalks$Ways;" ∈ wAll := wIn 395 (by decide +kernel) (by decide +kernel)
theorem w_397 : Cond.laysFinal "QuarterWalks" "QuarterWalks" "turns" "LQuarterWalks$Turns;" ∈ wAll := wIn 397 (by decide +kernel) (by decide +kernel)
theorem w_399 : Cond.laysFinal "QuarterWalks" "QuarterWalks" "matrix" "LQuarterWalks$Matrix;" ∈ wAll := wIn 399 (by decide +kernel) (by decide +kernel)
theorem w_401 : Cond.laysFinal "QuarterWalks" "QuarterWalks" "guess" "LQuarterWalks$Guess;" ∈ wAll := wIn 401 (by decide +kernel) (by decide +kernel)
theorem w_403 : Cond.laysFinal "QuarterWalks" "QuarterWalks" "refused" "[I" ∈ wAll := wIn 403 (by decide +kernel) (by decide +kernel)
theorem w_405 : Cond.laysFinal "QuarterWalks" "QuarterWalks" "scratch" "[J" ∈ wAll := wIn 405 (by decide +kernel) (by decide +kernel)
theorem w_407 : Cond.laysFinal "QuarterWalks" "QuarterWalks" "script" "Ljava/lang/StringBuilder;" ∈ wAll := wIn 407 (by decide +kernel) (by decide +kernel)
theorem inA_X10 : ∀ w ∈ u_ws RX10 TX10 10, w ∈ wAll := List.forall_mem_cons.mpr ⟨w_389, List.forall_mem_cons.mpr ⟨w_391, List.forall_mem_cons.mpr ⟨w_393, List.forall_mem_cons.mpr ⟨w_395, List.forall_mem_cons.mpr ⟨w_397, List.forall_mem_cons.mpr ⟨w_399, List.forall_mem_cons.mpr ⟨w_401, List.forall_mem_cons.mpr ⟨w_403, List.forall_mem_cons.mpr ⟨w_405, List.forall_mem_cons.mpr ⟨w_407, fun _ h => absurd h List.not_mem_nil⟩⟩⟩⟩⟩⟩⟩⟩⟩⟩
theorem w_386 : Cond.fieldLink "QuarterWalks" 60 "QuarterWalks" "refused" "[I" ∈ wAll := wIn 386 (by decide +kernel) (by decide +kernel)
theorem fl_X10_60 : fl RX10 60 11 7 := ⟨RX10, TX10, 10, rfl, inA_X10, by decide, w_386⟩
theorem dX10_refuse_4 : decode cX10_refuse 4 = .ok (.iload_n 1, 1) := by decide +kernel
theorem dX10_refuse_5 : decode cX10_refuse 5 = .ok (.dup2, 1) := by decide +kernel
theorem dX10_refuse_6 : decode cX10_refuse 6 = .ok (.iaload, 1) := by decide +kernel
theorem dX10_refuse_7 : decode cX10_refuse 7 = .ok (.iconst 1, 1) := by decide +kernel
theorem dX10_refuse_8 : decode cX10_refuse 8 = .ok (.iadd, 1) := by decide +kernel
theorem dX10_refuse_9 : decode cX10_refuse 9 = .ok (.iastore, 1) := by decide +kernel
theorem dX10_refuse_10 : decode cX10_refuse 10 = .ok (.iconst (-1), 1) := by decide +kernel
theorem dX10_refuse_11 : decode cX10_refuse 11 = .ok (.ireturn, 1) := by decide +kernel
theorem dX11_refuse_0 : decode cX11_refuse 0 = .ok (.aload_n 0, 1) := by decide +kernel
theorem dX11_refuse_1 : decode cX11_refuse 1 = .ok (.getfield 26, 3) := by decide +kernel
theorem w_1442 : Cond.fieldLink "QuarterWalksModel" 26 "QuarterWalksModel" "refused" "[I" ∈ wAll := wIn 1442 (by decide +kernel) (by decide +kernel)
theorem fl_X11_26 : fl RX11 26 12 9 := ⟨RX11, TX11, 32, rfl, inA_X11, by decide, w_1442⟩
theorem dX11_refuse_4 : decode cX11_refuse 4 = .ok (.iload_n 1, 1) := by decide +kernel
theorem dX11_refuse_5 : decode cX11_refuse 5 = .ok (.dup2, 1) := by decide +kernel
theorem dX11_refuse_6 : decode cX11_refuse 6 = .ok (.iaload, 1) := by decide +kernel
theorem dX11_refuse_7 : decode cX11_refuse 7 = .ok (.iconst 1, 1) := by decide +kernel
theorem dX11_refuse_8 : decode cX11_refuse 8 = .ok (.iadd, 1) := by decide +kernel
theorem dX11_refuse_9 : decode cX11_refuse 9 = .ok (.iastore, 1) := by decide +kernel
theorem dX11_refuse_10 : decode cX11_refuse 10 = .ok (.iconst (-1), 1) := by decide +kernel
theorem dX11_refuse_11 : decode cX11_refuse 11 = .ok (.ireturn, 1) := by decide +kernel
theorem dX10_readies_0 : decode cX10_readies 0 = .ok (.aload_n 0, 1) := by decide +kernel
theorem dX10_readies_1 : decode cX10_readies 1 = .ok (.getfield 19, 3) := by decide +kernel
theorem w_380 : Cond.fieldLink "QuarterWalks" 19 "QuarterWalks" "book" "LQuarterWalks$Book;" ∈ wAll := wIn 380 (by decide +kernel) (by decide +kernel)
theorem fl_X10_19 : fl RX10 19 11 1 := ⟨RX10, TX10, 10, rfl, inA_X10, by decide, w_380⟩
theorem dX10_readies_4 : decode cX10_readies 4 = .ok (.iload_n 1, 1) := by decide +kernel
theorem dX10_readies_5 : decode cX10_readies 5 = .ok (.invokevirtual 110, 3) := by decide +kernel
theorem w_594 : Cond.methodLink "QuarterWalks" 110 yX0_find ∈ wAll := wIn 594 (by decide +kernel) (by decide +kernel)
theorem w_596 : Cond.selects yX0_find.cls yX0_find yX0_find ∈ wAll := wIn 596 (by decide +kernel) (by decide +kernel)
theorem w_98 : Cond.initialized "QuarterWalks$Book" ∈ wAll := wIn 98 (by decide +kernel) (by decide +kernel)
theorem mk_X0_find : mk yX0_find 1 := ⟨by decide +kernel, w_98⟩
theorem w_595 : Cond.instanceMethod yX0_find ∈ wAll := wIn 595 (by decide +kernel) (by decide +kernel)
theorem w_597 : Cond.code yX0_find cX0_find 2 (some (.object "QuarterWalks$StepSet")) ∈ wAll := wIn 597 (by decide +kernel) (by decide +kernel)
theorem dX10_readies_8 : decode cX10_readies 8 = .ok (.astore 6, 2) := by decide +kernel
theorem dX10_readies_10 : decode cX10_readies 10 = .ok (.aload 6, 2) := by decide +kernel
theorem dX10_readies_12 : decode cX10_readies 12 = .ok (.ifnull 21, 3) := by decide +kernel
theorem dX10_readies_33 : decode cX10_readies 33 = .ok (.iconst 0, 1) := by decide +kernel
theorem dX10_readies_34 : decode cX10_readies 34 = .ok (.ireturn, 1) := by decide +kernel

def xw (G : Nat → Nat) (f : hM) (X : Nat → Nat) : Prop := f (X 0) = some (.inr (11, [.ref (X 1), .ref (X 2), .ref (X 3), .ref (X 4), .ref (X 5), .ref (X 6), .ref (X 7), .ref (X 8), .ref (X 9), .ref (X 10)])) ∧ f (X 1) = some (.inr (8, [.int 0, .ref (X 11), .ref (X 12), .int 0, .int 0, .int 0, .int 0])) ∧ f (X 2) = some (.inr (1, [.int 0, .ref (X 13), .ref (X 14), .ref (X 15), .int 0, .int 0])) ∧ f (X 8) = some (.inl (G 1, 4, .inl (fun _ => 0))) ∧ f (X 11) = some (.inl (G 1, 200, .inl (fun _ => 0))) ∧ f (X 12) = some (.inl (G 1, 8, .inl (fun _ => 0))) ∧ f (X 13) = some (.inr (6, [.ref (X 16), .int 0])) ∧ f (X 14) = some (.inr (6, [.ref (X 17), .int 0])) ∧ f (X 16) = some (.inl (G 4, 8, .inr (.inr (.inr (.inr (fun _ => none)))))) ∧ f (X 17) = some (.inl (G 4, 8, .inr (.inr (.inr (.inr (fun _ => none))))))
def mw (G : Nat → Nat) (f : hM) (M : Nat → Nat) : Prop := f (M 0) = some (.inr (12, [.int 0, .ref (M 1), .int 0, .int 0, .int 0, .ref (M 2), .ref (M 3), .ref (M 4), .ref (M 5), .ref (M 6), .int 0, .int 0, .ref (M 7), .ref (M 8), .int 0, .ref (M 9), .ref (M 10), .ref (M 11), .long 0, .ref (M 12), .ref (M 13), .ref (M 14), .ref (M 15), .ref (M 16), .ref (M 17), .ref (M 18), .ref (M 19), .int 0, .int 0, .ref (M 20), .ref (M 21), .int 0])) ∧ f (M 1) = some (.inl (G 0, 200, .inl (fun _ => 0))) ∧ f (M 2) = some (.inl (G 1, 10, .inl (fun _ => 0))) ∧ f (M 3) = some (.inl (G 1, 81, .inl (fun _ => 0))) ∧ f (M 4) = some (.inl (G 1, 81, .inl (fun _ => 0))) ∧ f (M 6) = some (.inl (G 1, 4, .inl (fun _ => 0)))
abbrev XI : List Nat := [0, 1, 2, 8, 11, 12, 13, 14, 16, 17]
def wi (n a b : Int32) : Int32 := if n < a then 0 else if b < n then 0 else 1
theorem wi_none (n : Int32) : wi n 0 (-1) = 0 := by
  unfold wi
  by_cases h : n < 0
  · rw [if_pos h]
  · rw [if_neg h, if_pos]
    rw [Int32.lt_iff_toInt_lt] at h ⊢
    have e1 : (0 : Int32).toInt = 0 := rfl
    have e2 : (-1 : Int32).toInt = -1 := rfl
    omega
theorem wi_01 (n a b : Int32) : wi n a b = 0 ∨ wi n a b = 1 := by
  unfold wi
  split
  · exact Or.inl rfl
  · split
    · exact Or.inl rfl
    · exact Or.inr rfl
def wl (n a b : Int64) : Int32 := if lg_cmp n a < 0 then 0 else if 0 < lg_cmp n b then 0 else 1
theorem wl_none (n : Int64) : wl n 0 (-1) = 0 := by
  unfold wl
  by_cases h : lg_cmp n 0 < 0
  · rw [if_pos h]
  · rw [if_neg h, if_pos]
    rw [lg_cmp_lt] at h
    rw [lg_cmp_gt]
    rw [Int64.lt_iff_toInt_lt] at h ⊢
    have e1 : (0 : Int64).toInt = 0 := rfl
    have e2 : (-1 : Int64).toInt = -1 := rfl
    omega
theorem wl_01 (n a b : Int64) : wl n a b = 0 ∨ wl n a b = 1 := by
  unfold wl
  split
  · exact Or.inl rfl
  · split
    · exact Or.inl rfl
    · exact Or.inr rfl
set_option maxRecDepth 100000 in
set_option maxHeartbeats 4000000 in
theorem c_X10_within (l : Launch) (D : va_G) (G : Nat → Nat) (b0 : Nat) (f : hM) (n a b : Int32) : mI l yX10_within cX10_within 3 (.boolean) { frames := 0, cells := 0, slots := 0, locals := 0 } D G b0 f [.int n, .int a, .int b] (fun r f1 => wi n a b = r ∧ f = f1) := by
  refine met_of (own := RX10) (by decide) rfl (Nat.le_of_ble_eq_true rfl) ?_
  intro p e s m below meth c ls C hr hini hl h
  have hl : lv_has ls 3 [(0, .int n), (1, .int a), (2, .int b)] := hl
  obtain ⟨hx, hb, hml, hown, hts, hE0, hlk⟩ := id C
  refine lv_iload_n hx hb dX10_within_0 rfl (lv_at hl 0 rfl) ?_
  refine lv_iload_n hx hb dX10_within_1 rfl (lv_at hl 1 rfl) ?_
  refine lv_icmp_lt (tgt := 14) hx hb dX10_within_2 (by decide) (fun c_1 => ?_) (fun c_1 => ?_)
  · refine lv_iconst (v := 0) hx hb dX10_within_14 (by decide) ?_
    exact q_zret C h hr (Or.inl rfl) (⟨by simp [wi, c_1], rfl⟩) (Nat.le_of_ble_eq_true rfl) (Nat.le_of_ble_eq_true rfl) dX10_within_15
  · refine lv_iload_n hx hb dX10_within_5 rfl (lv_at hl 0 rfl) ?_
    refine lv_iload_n hx hb dX10_within_6 rfl (lv_at hl 2 rfl) ?_
    refine lv_icmp_gt (tgt := 14) hx hb dX10_within_7 (by decide) (fun c_2 => ?_) (fun c_2 => ?_)
    · refine lv_iconst (v := 0) hx hb dX10_within_14 (by decide) ?_
      exact q_zret C h hr (Or.inl rfl) (⟨by simp [wi, c_1, c_2], rfl⟩) (Nat.le_of_ble_eq_true rfl) (Nat.le_of_ble_eq_true rfl) dX10_within_15
    · refine lv_iconst (v := 1) hx hb dX10_within_10 (by decide) ?_
      refine lv_goto (tgt := 15) hx hb dX10_within_11 (by decide) ?_
      exact q_zret C h hr (Or.inr rfl) (⟨by simp [wi, c_1, c_2], rfl⟩) (Nat.le_of_ble_eq_true rfl) (Nat.le_of_ble_eq_true rfl) dX10_within_15
set_option maxRecDepth 100000 in
set_option maxHeartbeats 4000000 in
theorem c_X11_isIn (l : Launch) (D : va_G) (G : Nat → Nat) (b0 : Nat) (f : hM) (n a b : Int64) : mI l yX11_isIn cX11_isIn 6 (.boolean) { frames := 0, cells := 0, slots := 0, locals := 0 } D G b0 f [.long n, .long a, .long b] (fun r f1 => wl n a b = r ∧ f = f1) := by
  refine met_of (own := RX11) (by decide) rfl (Nat.le_of_ble_eq_true rfl) ?_
  intro p e s m below meth c ls C hr hini hl h
  have hl : lv_has ls 6 [(0, .long n), (2, .long a), (4, .long b)] := hl
  obtain ⟨hx, hb, hml, hown, hts, hE0, hlk⟩ := id C
  refine lv_lload_n hx hb dX11_isIn_0 rfl (lv_at hl 0 rfl) ?_
  refine lv_lload_n hx hb dX11_isIn_1 rfl (lv_at hl 1 rfl) ?_
  refine W.lcmp hx hb dX11_isIn_2 ?_
  refine lv_if_lt (tgt := 17) hx hb dX11_isIn_3 (by decide) (fun c_3 => ?_) (fun c_3 => ?_)
  · refine lv_iconst (v := 0) hx hb dX11_isIn_17 (by decide) ?_
    exact q_zret C h hr (Or.inl rfl) (⟨by simp [wl, c_3], rfl⟩) (Nat.le_of_ble_eq_true rfl) (Nat.le_of_ble_eq_true rfl) dX11_isIn_18
  · refine lv_lload_n hx hb dX11_isIn_6 rfl (lv_at hl 0 rfl) ?_
    refine lv_lload hx hb dX11_isIn_7 (lv_at hl 2 rfl) ?_
    refine W.lcmp hx hb dX11_isIn_9 ?_
    refine lv_if_gt (tgt := 17) hx hb dX11_isIn_10 (by decide) (fun c_4 => ?_) (fun c_4 => ?_)
    · refine lv_iconst (v := 0) hx hb dX11_isIn_17 (by decide) ?_
      exact q_zret C h hr (Or.inl rfl) (⟨by simp [wl, c_3, c_4], rfl⟩) (Nat.le_of_ble_eq_true rfl) (Nat.le_of_ble_eq_true rfl) dX11_isIn_18
    · refine lv_iconst (v := 1) hx hb dX11_isIn_13 (by decide) ?_
      refine lv_goto (tgt := 18) hx hb dX11_isIn_14 (by decide) ?_
      exact q_zret C h hr (Or.inr rfl) (⟨by simp [wl, c_3, c_4], rfl⟩) (Nat.le_of_ble_eq_true rfl) (Nat.le_of_ble_eq_true rfl) dX11_isIn_18
set_option maxRecDepth 100000 in
set_option maxHeartbeats 4000000 in
theorem c_X0_find (l : Launch) (D : va_G) (G : Nat → Nat) (b0 : Nat) (f : hM) (X : Nat → Nat) (hX : xw G f X) (n : Int32) : mQ l yX0_find cX0_find 2 (.object "QuarterWalks$StepSet") { frames := 1, cells := 0, slots := 0, locals := 22 } D G b0 f [.ref (X 2), .int n] (fun r f1 => none = r ∧ f = f1) := by
  refine met_of (own := RX0) (by decide) rfl (Nat.le_of_ble_eq_true rfl) ?_
  intro p e s m below meth c ls C hr hini hl h
  have hl : lv_has ls 2 [(0, .ref (X 2)), (1, .int n)] := hl
  obtain ⟨hx, hb, hml, hown, hts, hE0, hlk⟩ := id C
  obtain ⟨kx0, kx1, kx2, kx3, kx4, kx5, kx6, kx7, kx8, kx9⟩ := hX
  refine lv_iload_n hx hb dX0_find_0 rfl (lv_at hl 1 rfl) ?_
  refine lv_iconst (v := 0) hx hb dX0_find_1 (by decide) ?_
  refine lv_aload_n hx hb dX0_find_2 rfl (lv_at hl 0 rfl) ?_
  refine q_get C h kx2 fl_X0_12 (v := .ref (X 13)) rfl dX0_find_3 ?_
  refine q_get C h kx6 fl_X0_25 (v := .int 0) rfl dX0_find_6 ?_
  refine lv_iconst (v := 1) hx hb dX0_find_9 (by decide) ?_
  refine lv_isub hx hb dX0_find_10 ?_
  refine lv_topi (fun x_ e_ => ?_)
  obtain rfl : (-1) = x_ := by rw [e_]; decide
  refine k_i (r_SN C h hl (host := "QuarterWalks") (As := [.int n, .int 0, .int (-1)]) (rest := []) (c_X10_within l D G b0 f  n 0 (-1)) mk_X10_within (by decide) w_426 w_427 ⟨Nat.le_of_ble_eq_true rfl, Nat.le_of_ble_eq_true rfl⟩ rfl (Nat.le_of_ble_eq_true rfl) ⟨Nat.le_of_ble_eq_true rfl, Nat.le_of_ble_eq_true rfl⟩ rfl dX0_find_11) h (fun r_5 f_6 H locs p_7 h => ?_)
  obtain ⟨e_, rfl⟩ := p_7
  rw [wi_none] at e_
  subst e_
  refine lv_if_eq (tgt := 29) hx hb dX0_find_14 (by decide) (fun c_8 => ?_) (fun c_8 => ?_)
  · refine lv_null hx hb dX0_find_29 ?_
    exact q_aret C h hr (Or.inl ⟨_, rfl⟩) (v := none) (⟨rfl, rfl⟩) (Nat.le_of_ble_eq_true rfl) (Nat.le_of_ble_eq_true rfl) rfl dX0_find_30
  · exact absurd c_8 (by decide)
set_option maxRecDepth 100000 in
set_option maxHeartbeats 4000000 in
theorem c_X11_isSet (l : Launch) (D : va_G) (G : Nat → Nat) (b0 : Nat) (f : hM) (M : Nat → Nat) (hM : mw G f M) (n : Int32) : mI l yX11_isSet cX11_isSet 2 (.boolean) { frames := 1, cells := 0, slots := 0, locals := 25 } D G b0 f [.ref (M 0), .int n] (fun r f1 => (0 : Int32) = r ∧ f = f1) := by
  refine met_of (own := RX11) (by decide) rfl (Nat.le_of_ble_eq_true rfl) ?_
  intro p e s m below meth c ls C hr hini hl h
  have hl : lv_has ls 2 [(0, .ref (M 0)), (1, .int n)] := hl
  obtain ⟨hx, hb, hml, hown, hts, hE0, hlk⟩ := id C
  obtain ⟨km0, km1, km2, km3, km4, km5⟩ := hM
  refine lv_iload_n hx hb dX11_isSet_0 rfl (lv_at hl 1 rfl) ?_
  refine lv_i2l (v := Int32.toInt64 n) hx hb dX11_isSet_1 rfl ?_
  refine lv_lconst (v := 0) hx hb dX11_isSet_2 (by decide) ?_
  refine lv_aload_n hx hb dX11_isSet_3 rfl (lv_at hl 0 rfl) ?_
  refine q_get C h km0 fl_X11_17 (v := .ref (M 3)) rfl dX11_isSet_4 ?_
  refine lv_bipush (v := 80) hx hb dX11_isSet_7 (by decide) ?_
  refine q_iald C h km3 (by unfold vp_in; decide) dX11_isSet_9 ?_
  refine lv_topi (fun x_ e_ => ?_)
  obtain rfl : 0 = x_ := e_.symm
  refine lv_iconst (v := 1) hx hb dX11_isSet_10 (by decide) ?_
  refine lv_isub hx hb dX11_isSet_11 ?_
  refine lv_topi (fun x_ e_ => ?_)
  obtain rfl : (-1) = x_ := by rw [e_]; decide
  refine lv_i2l (v := -1) hx hb dX11_isSet_12 (by decide) ?_
  refine k_i (r_S C h hl (As := [.long (Int32.toInt64 n), .long 0, .long (-1)]) (rest := []) (c_X11_isIn l D G b0 f  (Int32.toInt64 n) 0 (-1)) mk_X11_isIn w_1628 w_1629 w_1630 ⟨Nat.le_of_ble_eq_true rfl, Nat.le_of_ble_eq_true rfl⟩ rfl (Nat.le_of_ble_eq_true rfl) ⟨Nat.le_of_ble_eq_true rfl, Nat.le_of_ble_eq_true rfl⟩ rfl dX11_isSet_13) h (fun r_9 f_10 H locs p_11 h => ?_)
  obtain ⟨e_, rfl⟩ := p_11
  rw [wl_none] at e_
  subst e_
  exact q_zret C h hr (Or.inl rfl) (⟨rfl, rfl⟩) (Nat.le_of_ble_eq_true rfl) (Nat.le_of_ble_eq_true rfl) dX11_isSet_16
set_option maxRecDepth 100000 in
set_option maxHeartbeats 4000000 in
theorem c_X10_refuse (l : Launch) (D : va_G) (G : Nat → Nat) (b0 : Nat) (f : hM) (X : Nat → Nat) (hX : xw G f X) : mI l yX10_refuse cX10_refuse 2 (.int) { frames := 0, cells := 0, slots := 0, locals := 0 } D G b0 f [.ref (X 0), .int 0] (fun r f1 => (-1 : Int32) = r ∧ ∀ q, (∀ i, i ∈ XI → q ≠ X i) → f1 q = f q) := by
  refine met_of (own := RX10) (by decide) rfl (Nat.le_of_ble_eq_true rfl) ?_
  intro p e s m below meth c ls C hr hini hl h
  have hl : lv_has ls 2 [(0, .ref (X 0)), (1, .int 0)] := hl
  obtain ⟨hx, hb, hml, hown, hts, hE0, hlk⟩ := id C
  obtain ⟨kx0, kx1, kx2, kx3, kx4, kx5, kx6, kx7, kx8, kx9⟩ := hX
  refine lv_aload_n hx hb dX10_refuse_0 rfl (lv_at hl 0 rfl) ?_
  refine q_get C h kx0 fl_X10_60 (v := .ref (X 8)) rfl dX10_refuse_1 ?_
  refine lv_iload_n hx hb dX10_refuse_4 rfl (lv_at hl 1 rfl) ?_
  refine lv_dup2_11 hx hb dX10_refuse_5 rfl rfl ?_
  refine q_iald C h kx3 (by unfold vp_in; decide) dX10_refuse_6 ?_
  refine lv_topi (fun x_ e_ => ?_)
  obtain rfl : 0 = x_ := e_.symm
  refine lv_iconst (v := 1) hx hb dX10_refuse_7 (by decide) ?_
  refine lv_iadd hx hb dX10_refuse_8 ?_
  refine lv_topi (fun x_ e_ => ?_)
  obtain rfl : 1 = x_ := by rw [e_]; decide
  refine q_iast C h kx3 (by unfold vp_in; decide) dX10_refuse_9 (fun H locs h => ?_)
  generalize ef_13 : hu f (X 8) (.inl (G 1, 4, .inl (upd (fun _ => 0) (Int32.toNatClampNeg 0) 1))) = f_13 at h
  have k_14 : f_13 (X 0) = some (.inr (11, [.ref (X 1), .ref (X 2), .ref (X 3), .ref (X 4), .ref (X 5), .ref (X 6), .ref (X 7), .ref (X 8), .ref (X 9), .ref (X 10)])) := by rw [← ef_13]; exact hu_at kx0 (hne (1, 4) (4, 11) kx3 kx0 rfl rfl (by decide))
  have k_15 : f_13 (X 1) = some (.inr (8, [.int 0, .ref (X 11), .ref (X 12), .int 0, .int 0, .int 0, .int 0])) := by rw [← ef_13]; exact hu_at kx1 (hne (1, 4) (4, 8) kx3 kx1 rfl rfl (by decide))
  have k_16 : f_13 (X 2) = some (.inr (1, [.int 0, .ref (X 13), .ref (X 14), .ref (X 15), .int 0, .int 0])) := by rw [← ef_13]; exact hu_at kx2 (hne (1, 4) (4, 1) kx3 kx2 rfl rfl (by decide))
  have k_17 : f_13 (X 11) = some (.inl (G 1, 200, .inl (fun _ => 0))) := by rw [← ef_13]; exact hu_at kx4 (hne (1, 4) (1, 200) kx3 kx4 rfl rfl (by decide))
  have k_18 : f_13 (X 12) = some (.inl (G 1, 8, .inl (fun _ => 0))) := by rw [← ef_13]; exact hu_at kx5 (hne (1, 4) (1, 8) kx3 kx5 rfl rfl (by decide))
  have k_19 : f_13 (X 13) = some (.inr (6, [.ref (X 16), .int 0])) := by rw [← ef_13]; exact hu_at kx6 (hne (1, 4) (4, 6) kx3 kx6 rfl rfl (by decide))
  have k_20 : f_13 (X 14) = some (.inr (6, [.ref (X 17), .int 0])) := by rw [← ef_13]; exact hu_at kx7 (hne (1, 4) (4, 6) kx3 kx7 rfl rfl (by decide))
  have k_21 : f_13 (X 16) = some (.inl (G 4, 8, .inr (.inr (.inr (.inr (fun _ => none)))))) := by rw [← ef_13]; exact hu_at kx8 (hne (1, 4) (3, 8) kx3 kx8 rfl rfl (by decide))
  have k_22 : f_13 (X 17) = some (.inl (G 4, 8, .inr (.inr (.inr (.inr (fun _ => none)))))) := by rw [← ef_13]; exact hu_at kx9 (hne (1, 4) (3, 8) kx3 kx9 rfl rfl (by decide))
  have k_23 : f_13 (X 8) = some (.inl (G 1, 4, .inl (upd (fun _ => 0) (Int32.toNatClampNeg 0) 1))) := by rw [← ef_13]; exact hu_self _ _ _
  refine lv_iconst (v := -1) hx hb dX10_refuse_10 (by decide) ?_
  exact q_iret C h hr (⟨rfl, fun q hq => ((congrFun ef_13.symm q).trans (hu_ne (hq 8 (by decide))))⟩) (Nat.le_of_ble_eq_true rfl) (Nat.le_of_ble_eq_true rfl) dX10_refuse_11
set_option maxRecDepth 100000 in
set_option maxHeartbeats 4000000 in
theorem c_X11_refuse (l : Launch) (D : va_G) (G : Nat → Nat) (b0 : Nat) (f : hM) (M : Nat → Nat) (hM : mw G f M) : mI l yX11_refuse cX11_refuse 2 (.int) { frames := 0, cells := 0, slots := 0, locals := 0 } D G b0 f [.ref (M 0), .int 0] (fun r f1 => (-1 : Int32) = r) := by
  refine met_of (own := RX11) (by decide) rfl (Nat.le_of_ble_eq_true rfl) ?_
  intro p e s m below meth c ls C hr hini hl h
  have hl : lv_has ls 2 [(0, .ref (M 0)), (1, .int 0)] := hl
  obtain ⟨hx, hb, hml, hown, hts, hE0, hlk⟩ := id C
  obtain ⟨km0, km1, km2, km3, km4, km5⟩ := hM
  refine lv_aload_n hx hb dX11_refuse_0 rfl (lv_at hl 0 rfl) ?_
  refine q_get C h km0 fl_X11_26 (v := .ref (M 6)) rfl dX11_refuse_1 ?_
  refine lv_iload_n hx hb dX11_refuse_4 rfl (lv_at hl 1 rfl) ?_
  refine lv_dup2_11 hx hb dX11_refuse_5 rfl rfl ?_
  refine q_iald C h km5 (by unfold vp_in; decide) dX11_refuse_6 ?_
  refine lv_topi (fun x_ e_ => ?_)
  obtain rfl : 0 = x_ := e_.symm
  refine lv_iconst (v := 1) hx hb dX11_refuse_7 (by decide) ?_
  refine lv_iadd hx hb dX11_refuse_8 ?_
  refine lv_topi (fun x_ e_ => ?_)
  obtain rfl : 1 = x_ := by rw [e_]; decide
  refine q_iast C h km5 (by unfold vp_in; decide) dX11_refuse_9 (fun H locs h => ?_)
  generalize ef_25 : hu f (M 6) (.inl (G 1, 4, .inl (upd (fun _ => 0) (Int32.toNatClampNeg 0) 1))) = f_25 at h
  have k_26 : f_25 (M 0) = some (.inr (12, [.int 0, .ref (M 1), .int 0, .int 0, .int 0, .ref (M 2), .ref (M 3), .ref (M 4), .ref (M 5), .ref (M 6), .int 0, .int 0, .ref (M 7), .ref (M 8), .int 0, .ref (M 9), .ref (M 10), .ref (M 11), .long 0, .ref (M 12), .ref (M 13), .ref (M 14), .ref (M 15), .ref (M 16), .ref (M 17), .ref (M 18), .ref (M 19), .int 0, .int 0, .ref (M 20), .ref (M 21), .int 0])) := by rw [← ef_25]; exact hu_at km0 (hne (1, 4) (4, 12) km5 km0 rfl rfl (by decide))
  have k_27 : f_25 (M 1) = some (.inl (G 0, 200, .inl (fun _ => 0))) := by rw [← ef_25]; exact hu_at km1 (hne (1, 4) (1, 200) km5 km1 rfl rfl (by decide))
  have k_28 : f_25 (M 2) = some (.inl (G 1, 10, .inl (fun _ => 0))) := by rw [← ef_25]; exact hu_at km2 (hne (1, 4) (1, 10) km5 km2 rfl rfl (by decide))
  have k_29 : f_25 (M 3) = some (.inl (G 1, 81, .inl (fun _ => 0))) := by rw [← ef_25]; exact hu_at km3 (hne (1, 4) (1, 81) km5 km3 rfl rfl (by decide))
  have k_30 : f_25 (M 4) = some (.inl (G 1, 81, .inl (fun _ => 0))) := by rw [← ef_25]; exact hu_at km4 (hne (1, 4) (1, 81) km5 km4 rfl rfl (by decide))
  have k_31 : f_25 (M 6) = some (.inl (G 1, 4, .inl (upd (fun _ => 0) (Int32.toNatClampNeg 0) 1))) := by rw [← ef_25]; exact hu_self _ _ _
  refine lv_iconst (v := -1) hx hb dX11_refuse_10 (by decide) ?_
  exact q_iret C h hr (rfl) (Nat.le_of_ble_eq_true rfl) (Nat.le_of_ble_eq_true rfl) dX11_refuse_11
set_option maxRecDepth 100000 in
set_option maxHeartbeats 4000000 in
theorem c_X10_readies (l : Launch) (D : va_G) (G : Nat → Nat) (b0 : Nat) (f : hM) (X : Nat → Nat) (hX : xw G f X) (p0 : Int32) (p1 : Int32) (p2 : Int32) (p3 : Int32) (p4 : Int32) : mI l yX10_readies cX10_readies 7 (.boolean) { frames := 2, cells := 0, slots := 0, locals := 43 } D G b0 f [.ref (X 0), .int p0, .int p1, .int p2, .int p3, .int p4] (fun r f1 => (0 : Int32) = r ∧ ∀ q, (∀ i, i ∈ XI → q ≠ X i) → f1 q = f q) := by
  refine met_of (own := RX10) (by decide) rfl (Nat.le_of_ble_eq_true rfl) ?_
  intro p e s m below meth c ls C hr hini hl h
  have hl : lv_has ls 7 [(0, .ref (X 0)), (1, .int p0), (2, .int p1), (3, .int p2), (4, .int p3), (5, .int p4)] := hl
  obtain ⟨hx, hb, hml, hown, hts, hE0, hlk⟩ := id C
  obtain ⟨kx0, kx1, kx2, kx3, kx4, kx5, kx6, kx7, kx8, kx9⟩ := hX
  refine lv_aload_n hx hb dX10_readies_0 rfl (lv_at hl 0 rfl) ?_
  refine q_get C h kx0 fl_X10_19 (v := .ref (X 2)) rfl dX10_readies_1 ?_
  refine lv_iload_n hx hb dX10_readies_4 rfl (lv_at hl 1 rfl) ?_
  refine k_q (r_V C h hl (As := [.int p0]) (rest := []) (c_X0_find l D G b0 f X ⟨kx0, kx1, kx2, kx3, kx4, kx5, kx6, kx7, kx8, kx9⟩ p0) kx2 (Cn := RX0) (T := TX0) (N := 6) rfl rfl mk_X0_find w_594 w_595 w_596 w_597 ⟨Nat.le_of_ble_eq_true rfl, Nat.le_of_ble_eq_true rfl⟩ rfl (Nat.le_of_ble_eq_true rfl) ⟨Nat.le_of_ble_eq_true rfl, Nat.le_of_ble_eq_true rfl⟩ rfl dX10_readies_5) h (fun r_32 f_33 H locs p_34 h => ?_)
  obtain ⟨rfl, rfl⟩ := p_34
  refine lv_astoreN (lv' := [(6, .null), (0, .ref (X 0)), (1, .int p0), (2, .int p1), (3, .int p2), (4, .int p3), (5, .int p4)]) hx hb dX10_readies_8 hl (by decide) rfl (fun ls hl => ?_)
  refine lv_aloadN hx hb dX10_readies_10 (lv_at hl 0 rfl) ?_
  refine lv_ifnullN (tgt := 33) hx hb dX10_readies_12 (by decide) ?_
  refine lv_iconst (v := 0) hx hb dX10_readies_33 (by decide) ?_
  exact q_zret C h hr (Or.inl rfl) (⟨rfl, fun q hq => rfl⟩) (Nat.le_of_ble_eq_true rfl) (Nat.le_of_ble_eq_true rfl) dX10_readies_34
