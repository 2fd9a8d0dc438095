theorem dX11_isIn_0 : decode cX11_isIn 0 = .ok (.lload_n 0, 1) := by decide +kernel
theorem dX11_isIn_1 : decode cX11_isIn 1 = .ok (.lload_n 2, 1) := by decide +kernel
theorem dX11_isIn_2 : decode cX11_isIn 2 = .ok (.lcmp, 1) := by decide +kernel
theorem dX11_isIn_3 : decode cX11_isIn 3 = .ok (.ifCond .lt 14, 3) := by decide +kernel
theorem dX11_isIn_17 : decode cX11_isIn 17 = .ok (.iconst 0, 1) := by decide +kernel
theorem dX11_isIn_6 : decode cX11_isIn 6 = .ok (.lload_n 0, 1) := by decide +kernel
theorem dX11_isIn_7 : decode cX11_isIn 7 = .ok (.lload 4, 2) := by decide +kernel
theorem dX11_isIn_9 : decode cX11_isIn 9 = .ok (.lcmp, 1) := by decide +kernel
theorem dX11_isIn_10 : decode cX11_isIn 10 = .ok (.ifCond .gt 7, 3) := by decide +kernel
theorem dX11_isIn_13 : decode cX11_isIn 13 = .ok (.iconst 1, 1) := by decide +kernel
theorem dX11_isIn_14 : decode cX11_isIn 14 = .ok (.goto 4, 3) := by decide +kernel
theorem dX11_isIn_18 : decode cX11_isIn 18 = .ok (.ireturn, 1) := by decide +kernel
theorem dX11_dx_0 : decode cX11_dx 0 = .ok (.iload_n 0, 1) := by decide +kernel
theorem dX11_dx_1 : decode cX11_dx 1 = .ok (.ifCond .eq 8, 3) := by decide +kernel
theorem dX11_dx_9 : decode cX11_dx 9 = .ok (.iconst 0, 1) := by decide +kernel
theorem dX11_dx_10 : decode cX11_dx 10 = .ok (.goto 13, 3) := by decide +kernel
theorem dX11_dx_4 : decode cX11_dx 4 = .ok (.iload_n 0, 1) := by decide +kernel
theorem dX11_dx_5 : decode cX11_dx 5 = .ok (.iconst 4, 1) := by decide +kernel
theorem dX11_dx_6 : decode cX11_dx 6 = .ok (.if_icmp .ne 7, 3) := by decide +kernel
theorem dX11_dx_13 : decode cX11_dx 13 = .ok (.iload_n 0, 1) := by decide +kernel
theorem dX11_dx_14 : decode cX11_dx 14 = .ok (.iconst 4, 1) := by decide +kernel
theorem dX11_dx_15 : decode cX11_dx 15 = .ok (.if_icmp .ge 7, 3) := by decide +kernel
theorem dX11_dx_22 : decode cX11_dx 22 = .ok (.iconst (-1), 1) := by decide +kernel
theorem dX11_dx_18 : decode cX11_dx 18 = .ok (.iconst 1, 1) := by decide +kernel
theorem dX11_dx_19 : decode cX11_dx 19 = .ok (.goto 4, 3) := by decide +kernel
theorem dX11_dx_23 : decode cX11_dx 23 = .ok (.ireturn, 1) := by decide +kernel
theorem dX11_dy_0 : decode cX11_dy 0 = .ok (.iload_n 0, 1) := by decide +kernel
theorem dX11_dy_1 : decode cX11_dy 1 = .ok (.iconst 2, 1) := by decide +kernel
theorem dX11_dy_2 : decode cX11_dy 2 = .ok (.if_icmp .eq 9, 3) := by decide +kernel
theorem dX11_dy_11 : decode cX11_dy 11 = .ok (.iconst 0, 1) := by decide +kernel
theorem dX11_dy_12 : decode cX11_dy 12 = .ok (.goto 19, 3) := by decide +kernel
theorem dX11_dy_5 : decode cX11_dy 5 = .ok (.iload_n 0, 1) := by decide +kernel
theorem dX11_dy_6 : decode cX11_dy 6 = .ok (.bipush 6, 2) := by decide +kernel
theorem dX11_dy_8 : decode cX11_dy 8 = .ok (.if_icmp .ne 7, 3) := by decide +kernel
theorem dX11_dy_15 : decode cX11_dy 15 = .ok (.iload_n 0, 1) := by decide +kernel
theorem dX11_dy_16 : decode cX11_dy 16 = .ok (.iconst 2, 1) := by decide +kernel
theorem dX11_dy_17 : decode cX11_dy 17 = .ok (.if_icmp .lt 9, 3) := by decide +kernel
theorem dX11_dy_26 : decode cX11_dy 26 = .ok (.iconst 1, 1) := by decide +kernel
theorem dX11_dy_27 : decode cX11_dy 27 = .ok (.goto 4, 3) := by decide +kernel
theorem dX11_dy_20 : decode cX11_dy 20 = .ok (.iload_n 0, 1) := by decide +kernel
theorem dX11_dy_21 : decode cX11_dy 21 = .ok (.bipush 7, 2) := by decide +kernel
theorem dX11_dy_23 : decode cX11_dy 23 = .ok (.if_icmp .ne 7, 3) := by decide +kernel
theorem dX11_dy_30 : decode cX11_dy 30 = .ok (.iconst (-1), 1) := by decide +kernel
theorem dX11_dy_31 : decode cX11_dy 31 = .ok (.ireturn, 1) := by decide +kernel
theorem dX11_isSet_0 : decode cX11_isSet 0 = .ok (.iload_n 1, 1) := by decide +kernel
theorem dX11_isSet_1 : decode cX11_isSet 1 = .ok (.i2l, 1) := by decide +kernel
theorem dX11_isSet_2 : decode cX11_isSet 2 = .ok (.lconst 0, 1) := by decide +kernel
theorem dX11_isSet_3 : decode cX11_isSet 3 = .ok (.aload_n 0, 1) := by decide +kernel
theorem dX11_isSet_4 : decode cX11_isSet 4 = .ok (.getfield 17, 3) := by decide +kernel
theorem w_1465 : Cond.lays "QuarterWalksModel" "QuarterWalksModel" "thrown" "I" ∈ wAll := wI6 170 (by decide +kernel) (by decide +kernel)
theorem w_1467 : Cond.laysFinal "QuarterWalksModel" "QuarterWalksModel" "tape" "[B" ∈ wAll := wI6 172 (by decide +kernel) (by decide +kernel)
theorem w_1469 : Cond.lays "QuarterWalksModel" "QuarterWalksModel" "length" "I" ∈ wAll := wI6 174 (by decide +kernel) (by decide +kernel)
theorem w_1471 : Cond.lays "QuarterWalksModel" "QuarterWalksModel" "at" "I" ∈ wAll := wI6 176 (by decide +kernel) (by decide +kernel)
theorem w_1473 : Cond.lays "QuarterWalksModel" "QuarterWalksModel" "fault" "I" ∈ wAll := wI6 178 (by decide +kernel) (by decide +kernel)
theorem w_1475 : Cond.laysFinal "QuarterWalksModel" "QuarterWalksModel" "read" "[I" ∈ wAll := wI6 180 (by decide +kernel) (by decide +kernel)
theorem w_1477 : Cond.laysFinal "QuarterWalksModel" "QuarterWalksModel" "book" "[I" ∈ wAll := wI6 182 (by decide +kernel) (by decide +kernel)
theorem w_1479 : Cond.laysFinal "QuarterWalksModel" "QuarterWalksModel" "image" "[I" ∈ wAll := wI6 184 (by decide +kernel) (by decide +kernel)
theorem w_1481 : Cond.laysFinal "QuarterWalksModel" "QuarterWalksModel" "kept" "[I" ∈ wAll := wI6 186 (by decide +kernel) (by decide +kernel)
theorem w_1483 : Cond.laysFinal "QuarterWalksModel" "QuarterWalksModel" "refused" "[I" ∈ wAll := wI6 188 (by decide +kernel) (by decide +kernel)
theorem w_1485 : Cond.lays "QuarterWalksModel" "QuarterWalksModel" "acts" "I" ∈ wAll := wI6 190 (by decide +kernel) (by decide +kernel)
theorem w_1487 : Cond.lays "QuarterWalksModel" "QuarterWalksModel" "hasImage" "Z" ∈ wAll := wI6 192 (by decide +kernel) (by decide +kernel)
theorem w_1489 : Cond.lays "QuarterWalksModel" "QuarterWalksModel" "grid" "[J" ∈ wAll := wI6 194 (by decide +kernel) (by decide +kernel)
theorem w_1491 : Cond.lays "QuarterWalksModel" "QuarterWalksModel" "next" "[J" ∈ wAll := wI6 196 (by decide +kernel) (by decide +kernel)
theorem w_1493 : Cond.lays "QuarterWalksModel" "QuarterWalksModel" "gone" "I" ∈ wAll := wI6 198 (by decide +kernel) (by decide +kernel)
theorem w_1495 : Cond.laysFinal "QuarterWalksModel" "QuarterWalksModel" "term" "[I" ∈ wAll := wI6 200 (by decide +kernel) (by decide +kernel)
theorem w_1497 : Cond.laysFinal "QuarterWalksModel" "QuarterWalksModel" "other" "[I" ∈ wAll := wI6 202 (by decide +kernel) (by decide +kernel)
theorem w_1499 : Cond.laysFinal "QuarterWalksModel" "QuarterWalksModel" "table" "[J" ∈ wAll := wI6 204 (by decide +kernel) (by decide +kernel)
theorem w_1501 : Cond.lays "QuarterWalksModel" "QuarterWalksModel" "determinant" "J" ∈ wAll := wI6 206 (by decide +kernel) (by decide +kernel)
theorem w_1503 : Cond.laysFinal "QuarterWalksModel" "QuarterWalksModel" "held" "[J" ∈ wAll := wI6 208 (by decide +kernel) (by decide +kernel)
theorem w_1505 : Cond.laysFinal "QuarterWalksModel" "QuarterWalksModel" "orbitX" "[I" ∈ wAll := wI6 210 (by decide +kernel) (by decide +kernel)
theorem w_1507 : Cond.laysFinal "QuarterWalksModel" "QuarterWalksModel" "orbitY" "[I" ∈ wAll := wI6 212 (by decide +kernel) (by decide +kernel)
theorem w_1509 : Cond.laysFinal "QuarterWalksModel" "QuarterWalksModel" "column" "[J" ∈ wAll := wI6 214 (by decide +kernel) (by decide +kernel)
theorem w_1511 : Cond.laysFinal "QuarterWalksModel" "QuarterWalksModel" "reduced" "[J" ∈ wAll := wI6 216 (by decide +kernel) (by decide +kernel)
theorem w_1513 : Cond.laysFinal "QuarterWalksModel" "QuarterWalksModel" "made" "[J" ∈ wAll := wI6 218 (by decide +kernel) (by decide +kernel)
theorem w_1515 : Cond.laysFinal "QuarterWalksModel" "QuarterWalksModel" "told" "[J" ∈ wAll := wI6 220 (by decide +kernel) (by decide +kernel)
theorem w_1517 : Cond.laysFinal "QuarterWalksModel" "QuarterWalksModel" "leads" "[I" ∈ wAll := wI6 222 (by decide +kernel) (by decide +kernel)
theorem w_1519 : Cond.lays "QuarterWalksModel" "QuarterWalksModel" "columns" "I" ∈ wAll := wI6 224 (by decide +kernel) (by decide +kernel)
theorem w_1521 : Cond.lays "QuarterWalksModel" "QuarterWalksModel" "rows" "I" ∈ wAll := wI6 226 (by decide +kernel) (by decide +kernel)
theorem w_1523 : Cond.laysFinal "QuarterWalksModel" "QuarterWalksModel" "powers" "[J" ∈ wAll := wI6 228 (by decide +kernel) (by decide +kernel)
theorem w_1525 : Cond.laysFinal "QuarterWalksModel" "QuarterWalksModel" "said" "[I" ∈ wAll := wI6 230 (by decide +kernel) (by decide +kernel)
theorem w_1527 : Cond.lays "QuarterWalksModel" "QuarterWalksModel" "says" "I" ∈ wAll := wI6 232 (by decide +kernel) (by decide +kernel)
theorem inA_X11 : ∀ w ∈ u_ws RX11 TX11 32, w ∈ wAll := List.forall_mem_cons.mpr ⟨w_1465, List.forall_mem_cons.mpr ⟨w_1467, List.forall_mem_cons.mpr ⟨w_1469, List.forall_mem_cons.mpr ⟨w_1471, List.forall_mem_cons.mpr ⟨w_1473, List.forall_mem_cons.mpr ⟨w_1475, List.forall_mem_cons.mpr ⟨w_1477, List.forall_mem_cons.mpr ⟨w_1479, List.forall_mem_cons.mpr ⟨w_1481, List.forall_mem_cons.mpr ⟨w_1483, List.forall_mem_cons.mpr ⟨w_1485, List.forall_mem_cons.mpr ⟨w_1487, List.forall_mem_cons.mpr ⟨w_1489, List.forall_mem_cons.mpr ⟨w_1491, List.forall_mem_cons.mpr ⟨w_1493, List.forall_mem_cons.mpr ⟨w_1495, List.forall_mem_cons.mpr ⟨w_1497, List.forall_mem_cons.mpr ⟨w_1499, List.forall_mem_cons.mpr ⟨w_1501, List.forall_mem_cons.mpr ⟨w_1503, List.forall_mem_cons.mpr ⟨w_1505, List.forall_mem_cons.mpr ⟨w_1507, List.forall_mem_cons.mpr ⟨w_1509, List.forall_mem_cons.mpr ⟨w_1511, List.forall_mem_cons.mpr ⟨w_1513, List.forall_mem_cons.mpr ⟨w_1515, List.forall_mem_cons.mpr ⟨w_1517, List.forall_mem_cons.mpr ⟨w_1519, List.forall_mem_cons.mpr ⟨w_1521, List.forall_mem_cons.mpr ⟨w_1523, List.forall_mem_cons.mpr ⟨w_1525, List.forall_mem_cons.mpr ⟨w_1527, fun _ h => absurd h List.not_mem_nil⟩⟩⟩⟩⟩⟩⟩⟩⟩⟩⟩⟩⟩⟩⟩⟩⟩⟩⟩⟩⟩⟩⟩⟩⟩⟩⟩⟩⟩⟩⟩⟩
theorem w_1439 : Cond.fieldLink "QuarterWalksModel" 17 "QuarterWalksModel" "book" "[I" ∈ wAll := wI6 144 (by decide +kernel) (by decide +kernel)
theorem fl_X11_17 : fl RX11 17 12 6 := ⟨RX11, TX11, 32, rfl, inA_X11, by decide, w_1439⟩
theorem dX11_isSet_7 : decode cX11_isSet 7 = .ok (.bipush 80, 2) := by decide +kernel
theorem dX11_isSet_9 : decode cX11_isSet 9 = .ok (.iaload, 1) := by decide +kernel
theorem dX11_isSet_10 : decode cX11_isSet 10 = .ok (.iconst 1, 1) := by decide +kernel
theorem dX11_isSet_11 : decode cX11_isSet 11 = .ok (.isub, 1) := by decide +kernel
theorem dX11_isSet_12 : decode cX11_isSet 12 = .ok (.i2l, 1) := by decide +kernel
theorem dX11_isSet_13 : decode cX11_isSet 13 = .ok (.invokestatic 158, 3) := by decide +kernel
theorem w_1624 : Cond.methodLink "QuarterWalksModel" 158 yX11_isIn ∈ wAll := wI7 89 (by decide +kernel) (by decide +kernel)
theorem w_110 : Cond.initialized "QuarterWalksModel" ∈ wAll := wI1 15 (by decide +kernel) (by decide +kernel)
theorem mk_X11_isIn : mk yX11_isIn 3 := ⟨by decide +kernel, w_110⟩
theorem w_1625 : Cond.static yX11_isIn ∈ wAll := wI7 90 (by decide +kernel) (by decide +kernel)
theorem w_1626 : Cond.code yX11_isIn cX11_isIn 6 (some .boolean) ∈ wAll := wI7 91 (by decide +kernel) (by decide +kernel)
theorem dX11_isSet_16 : decode cX11_isSet 16 = .ok (.ireturn, 1) := by decide +kernel
theorem dX11_weightOf_0 : decode cX11_weightOf 0 = .ok (.aload_n 0, 1) := by decide +kernel
theorem dX11_weightOf_1 : decode cX11_weightOf 1 = .ok (.getfield 17, 3) := by decide +kernel
theorem dX11_weightOf_4 : decode cX11_weightOf 4 = .ok (.bipush 10, 2) := by decide +kernel
theorem dX11_weightOf_6 : decode cX11_weightOf 6 = .ok (.iload_n 1, 1) := by decide +kernel
theorem dX11_weightOf_7 : decode cX11_weightOf 7 = .ok (.imul, 1) := by decide +kernel
theorem dX11_weightOf_8 : decode cX11_weightOf 8 = .ok (.iload_n 2, 1) := by decide +kernel
theorem dX11_weightOf_9 : decode cX11_weightOf 9 = .ok (.iadd, 1) := by decide +kernel
theorem dX11_weightOf_10 : decode cX11_weightOf 10 = .ok (.iaload, 1) := by decide +kernel
theorem dX11_weightOf_11 : decode cX11_weightOf 11 = .ok (.ireturn, 1) := by decide +kernel
theorem dX11_cell_0 : decode cX11_cell 0 = .ok (.sipush 140, 3) := by decide +kernel
theorem dX11_cell_3 : decode cX11_cell 3 = .ok (.iload_n 0, 1) := by decide +kernel
theorem dX11_cell_4 : decode cX11_cell 4 = .ok (.bipush 65, 2) := by decide +kernel
theorem dX11_cell_6 : decode cX11_cell 6 = .ok (.iadd, 1) := by decide +kernel
theorem dX11_cell_7 : decode cX11_cell 7 = .ok (.imul, 1) := by decide +kernel
theorem dX11_cell_8 : decode cX11_cell 8 = .ok (.iload_n 1, 1) := by decide +kernel
theorem dX11_cell_9 : decode cX11_cell 9 = .ok (.iadd, 1) := by decide +kernel
theorem dX11_cell_10 : decode cX11_cell 10 = .ok (.bipush 65, 2) := by decide +kernel
theorem dX11_cell_12 : decode cX11_cell 12 = .ok (.iadd, 1) := by decide +kernel
theorem dX11_cell_13 : decode cX11_cell 13 = .ok (.ireturn, 1) := by decide +kernel
theorem dX11_isInside_0 : decode cX11_isInside 0 = .ok (.iload_n 0, 1) := by decide +kernel
theorem dX11_isInside_1 : decode cX11_isInside 1 = .ok (.tableswitch 65 0 3 #[31, 45, 65, 55], 31) := by decide +kernel
theorem sw_0_3 (p : Int32) : p = 0 ∨ p = 1 ∨ p = 2 ∨ p = 3 ∨ (p.toInt < 0 ∨ 3 < p.toInt) := by
  have h : p.toInt = 0 ∨ p.toInt = 1 ∨ p.toInt = 2 ∨ p.toInt = 3 ∨ (p.toInt < 0 ∨ 3 < p.toInt) := by omega
  rcases h with h | h | h | h | h
  · exact Or.inl (Int32.toInt_inj.mp (h.trans rfl))
  · exact Or.inr (Or.inl (Int32.toInt_inj.mp (h.trans rfl)))
  · exact Or.inr (Or.inr (Or.inl (Int32.toInt_inj.mp (h.trans rfl))))
  · exact Or.inr (Or.inr (Or.inr (Or.inl (Int32.toInt_inj.mp (h.trans rfl)))))
  · exact Or.inr (Or.inr (Or.inr (Or.inr (h))))
theorem dX11_isInside_32 : decode cX11_isInside 32 = .ok (.iload_n 1, 1) := by decide +kernel
theorem dX11_isInside_33 : decode cX11_isInside 33 = .ok (.ifCond .lt 11, 3) := by decide +kernel
theorem dX11_isInside_44 : decode cX11_isInside 44 = .ok (.iconst 0, 1) := by decide +kernel
theorem dX11_isInside_36 : decode cX11_isInside 36 = .ok (.iload_n 2, 1) := by decide +kernel
theorem dX11_isInside_37 : decode cX11_isInside 37 = .ok (.ifCond .lt 7, 3) := by decide +kernel
theorem dX11_isInside_40 : decode cX11_isInside 40 = .ok (.iconst 1, 1) := by decide +kernel
theorem dX11_isInside_41 : decode cX11_isInside 41 = .ok (.goto 4, 3) := by decide +kernel
theorem dX11_isInside_46 : decode cX11_isInside 46 = .ok (.iload_n 2, 1) := by decide +kernel
theorem dX11_isInside_47 : decode cX11_isInside 47 = .ok (.ifCond .lt 7, 3) := by decide +kernel
theorem dX11_isInside_54 : decode cX11_isInside 54 = .ok (.iconst 0, 1) := by decide +kernel
theorem dX11_isInside_50 : decode cX11_isInside 50 = .ok (.iconst 1, 1) := by decide +kernel
theorem dX11_isInside_51 : decode cX11_isInside 51 = .ok (.goto 4, 3) := by decide +kernel
theorem dX11_isInside_66 : decode cX11_isInside 66 = .ok (.iconst 1, 1) := by decide +kernel
theorem dX11_isInside_56 : decode cX11_isInside 56 = .ok (.iload_n 1, 1) := by decide +kernel
theorem dX11_isInside_57 : decode cX11_isInside 57 = .ok (.ifCond .lt 7, 3) := by decide +kernel
theorem dX11_isInside_64 : decode cX11_isInside 64 = .ok (.iconst 0, 1) := by decide +kernel
theorem dX11_isInside_60 : decode cX11_isInside 60 = .ok (.iconst 1, 1) := by decide +kernel
theorem dX11_isInside_61 : decode cX11_isInside 61 = .ok (.goto 4, 3) := by decide +kernel
theorem dX11_isInside_45 : decode cX11_isInside 45 = .ok (.ireturn, 1) := by decide +kernel
theorem dX11_isInside_55 : decode cX11_isInside 55 = .ok (.ireturn, 1) := by decide +kernel
theorem dX11_isInside_67 : decode cX11_isInside 67 = .ok (.ireturn, 1) := by decide +kernel
theorem dX11_isInside_65 : decode cX11_isInside 65 = .ok (.ireturn, 1) := by decide +kernel
theorem dX11_begins_0 : decode cX11_begins 0 = .ok (.iconst 0, 1) := by decide +kernel
theorem dX11_begins_1 : decode cX11_begins 1 = .ok (.istore_n 2, 1) := by decide +kernel
theorem dX11_begins_2 : decode cX11_begins 2 = .ok (.iload_n 2, 1) := by decide +kernel
theorem dX11_begins_3 : decode cX11_begins 3 = .ok (.sipush 19600, 3) := by decide +kernel
theorem dX11_begins_6 : decode cX11_begins 6 = .ok (.if_icmp .ge 16, 3) := by decide +kernel
theorem dX11_begins_9 : decode cX11_begins 9 = .ok (.aload_n 0, 1) := by decide +kernel
theorem dX11_begins_10 : decode cX11_begins 10 = .ok (.getfield 29, 3) := by decide +kernel
theorem w_1445 : Cond.fieldLink "QuarterWalksModel" 29 "QuarterWalksModel" "grid" "[J" ∈ wAll := wI6 150 (by decide +kernel) (by decide +kernel)
theorem fl_X11_29 : fl RX11 29 12 12 := ⟨RX11, TX11, 32, rfl, inA_X11, by decide, w_1445⟩
theorem dX11_begins_13 : decode cX11_begins 13 = .ok (.iload_n 2, 1) := by decide +kernel
theorem dX11_begins_14 : decode cX11_begins 14 = .ok (.lconst 0, 1) := by decide +kernel
theorem dX11_begins_15 : decode cX11_begins 15 = .ok (.lastore, 1) := by decide +kernel
theorem dX11_begins_16 : decode cX11_begins 16 = .ok (.iinc 2 1, 3) := by decide +kernel
theorem dX11_begins_19 : decode cX11_begins 19 = .ok (.goto (-17), 3) := by decide +kernel
theorem dX11_begins_22 : decode cX11_begins 22 = .ok (.aload_n 0, 1) := by decide +kernel
theorem dX11_begins_23 : decode cX11_begins 23 = .ok (.getfield 29, 3) := by decide +kernel
theorem dX11_begins_26 : decode cX11_begins 26 = .ok (.aload_n 0, 1) := by decide +kernel
theorem dX11_begins_27 : decode cX11_begins 27 = .ok (.iload_n 1, 1) := by decide +kernel
theorem dX11_begins_28 : decode cX11_begins 28 = .ok (.bipush 8, 2) := by decide +kernel
theorem dX11_begins_30 : decode cX11_begins 30 = .ok (.invokevirtual 175, 3) := by decide +kernel
theorem w_1631 : Cond.methodLink "QuarterWalksModel" 175 yX11_weightOf ∈ wAll := wI7 96 (by decide +kernel) (by decide +kernel)
theorem w_52 : Cond.selects yX11_weightOf.cls yX11_weightOf yX11_weightOf ∈ wAll := wIn 52 (by decide +kernel) (by decide +kernel)
theorem mk_X11_weightOf : mk yX11_weightOf 2 := ⟨by decide +kernel, w_110⟩
theorem w_1633 : Cond.instanceMethod yX11_weightOf ∈ wAll := wI7 98 (by decide +kernel) (by decide +kernel)
theorem w_1634 : Cond.code yX11_weightOf cX11_weightOf 3 (some .int) ∈ wAll := wI7 99 (by decide +kernel) (by decide +kernel)
theorem dX11_begins_33 : decode cX11_begins 33 = .ok (.aload_n 0, 1) := by decide +kernel
theorem dX11_begins_34 : decode cX11_begins 34 = .ok (.iload_n 1, 1) := by decide +kernel
theorem dX11_begins_35 : decode cX11_begins 35 = .ok (.bipush 9, 2) := by decide +kernel
theorem dX11_begins_37 : decode cX11_begins 37 = .ok (.invokevirtual 175, 3) := by decide +kernel
theorem dX11_begins_40 : decode cX11_begins 40 = .ok (.invokestatic 206, 3) := by decide +kernel
theorem w_1706 : Cond.methodLink "QuarterWalksModel" 206 yX11_cell ∈ wAll := wI7 171 (by decide +kernel) (by decide +kernel)
theorem mk_X11_cell : mk yX11_cell 2 := ⟨by decide +kernel, w_110⟩
theorem w_1707 : Cond.static yX11_cell ∈ wAll := wI7 172 (by decide +kernel) (by decide +kernel)
theorem w_1708 : Cond.code yX11_cell cX11_cell 2 (some .int) ∈ wAll := wI7 173 (by decide +kernel) (by decide +kernel)
theorem dX11_begins_43 : decode cX11_begins 43 = .ok (.lconst 1, 1) := by decide +kernel
theorem dX11_begins_44 : decode cX11_begins 44 = .ok (.lastore, 1) := by decide +kernel
theorem dX11_begins_45 : decode cX11_begins 45 = .ok (.aload_n 0, 1) := by decide +kernel
theorem dX11_begins_46 : decode cX11_begins 46 = .ok (.iconst 0, 1) := by decide +kernel
theorem dX11_begins_47 : decode cX11_begins 47 = .ok (.putfield 209, 3) := by decide +kernel
theorem w_1447 : Cond.fieldLink "QuarterWalksModel" 209 "QuarterWalksModel" "gone" "I" ∈ wAll := wI6 152 (by decide +kernel) (by decide +kernel)
theorem flw_X11_209 : flw RX11 209 12 14 (.int) := ⟨RX11, TX11, 32, tyX11, rfl, inA_X11, by decide, w_1447, tyX11_ok, nmX11, by decide +kernel, Or.inl rfl⟩
theorem dX11_begins_50 : decode cX11_begins 50 = .ok (.return_, 1) := by decide +kernel
theorem dX11_with_0 : decode cX11_with 0 = .ok (.iload 5, 2) := by decide +kernel
theorem dX11_with_2 : decode cX11_with 2 = .ok (.tableswitch 50 1 3 #[26, 38, 46], 26) := by decide +kernel
theorem sw_1_3 (p : Int32) : p = 1 ∨ p = 2 ∨ p = 3 ∨ (p.toInt < 1 ∨ 3 < p.toInt) := by
  have h : p.toInt = 1 ∨ p.toInt = 2 ∨ p.toInt = 3 ∨ (p.toInt < 1 ∨ 3 < p.toInt) := by omega
  rcases h with h | h | h | h
  · exact Or.inl (Int32.toInt_inj.mp (h.trans rfl))
  · exact Or.inr (Or.inl (Int32.toInt_inj.mp (h.trans rfl)))
  · exact Or.inr (Or.inr (Or.inl (Int32.toInt_inj.mp (h.trans rfl))))
  · exact Or.inr (Or.inr (Or.inr (h)))
theorem dX11_with_28 : decode cX11_with 28 = .ok (.lload_n 0, 1) := by decide +kernel
theorem dX11_with_29 : decode cX11_with 29 = .ok (.lload_n 2, 1) := by decide +kernel
theorem dX11_with_30 : decode cX11_with 30 = .ok (.iload 4, 2) := by decide +kernel
theorem dX11_with_32 : decode cX11_with 32 = .ok (.i2l, 1) := by decide +kernel
theorem dX11_with_33 : decode cX11_with 33 = .ok (.lmul, 1) := by decide +kernel
theorem dX11_with_34 : decode cX11_with 34 = .ok (.ladd, 1) := by decide +kernel
theorem dX11_with_35 : decode cX11_with 35 = .ok (.ldc2_w 212, 3) := by decide +kernel
theorem w_1719 : Cond.constantLong "QuarterWalksModel" 212 1000003 ∈ wAll := wI7 184 (by decide +kernel) (by decide +kernel)
theorem dX11_with_38 : decode cX11_with 38 = .ok (.lrem, 1) := by decide +kernel
theorem dX11_with_40 : decode cX11_with 40 = .ok (.lload_n 0, 1) := by decide +kernel
theorem dX11_with_41 : decode cX11_with 41 = .ok (.lload_n 2, 1) := by decide +kernel
theorem dX11_with_42 : decode cX11_with 42 = .ok (.iload 4, 2) := by decide +kernel
theorem dX11_with_44 : decode cX11_with 44 = .ok (.i2l, 1) := by decide +kernel
theorem dX11_with_45 : decode cX11_with 45 = .ok (.lmul, 1) := by decide +kernel
theorem dX11_with_46 : decode cX11_with 46 = .ok (.ladd, 1) := by decide +kernel
theorem dX11_with_48 : decode cX11_with 48 = .ok (.lload_n 0, 1) := by decide +kernel
theorem dX11_with_49 : decode cX11_with 49 = .ok (.lload_n 2, 1) := by decide +kernel
theorem dX11_with_50 : decode cX11_with 50 = .ok (.ladd, 1) := by decide +kernel
theorem dX11_with_52 : decode cX11_with 52 = .ok (.lconst 1, 1) := by decide +kernel
theorem dX11_with_39 : decode cX11_with 39 = .ok (.lreturn, 1) := by decide +kernel
theorem dX11_with_47 : decode cX11_with 47 = .ok (.lreturn, 1) := by decide +kernel
theorem dX11_with_51 : decode cX11_with 51 = .ok (.lreturn, 1) := by decide +kernel
theorem dX11_with_53 : decode cX11_with 53 = .ok (.lreturn, 1) := by decide +kernel
theorem dX11_goes_0 : decode cX11_goes 0 = .ok (.iconst 0, 1) := by decide +kernel
theorem dX11_goes_1 : decode cX11_goes 1 = .ok (.istore 4, 2) := by decide +kernel
theorem dX11_goes_3 : decode cX11_goes 3 = .ok (.iload 4, 2) := by decide +kernel
theorem dX11_goes_5 : decode cX11_goes 5 = .ok (.sipush 19600, 3) := by decide +kernel
theorem dX11_goes_8 : decode cX11_goes 8 = .ok (.if_icmp .ge 17, 3) := by decide +kernel
theorem dX11_goes_11 : decode cX11_goes 11 = .ok (.aload_n 0, 1) := by decide +kernel
theorem dX11_goes_12 : decode cX11_goes 12 = .ok (.getfield 33, 3) := by decide +kernel
theorem w_1446 : Cond.fieldLink "QuarterWalksModel" 33 "QuarterWalksModel" "next" "[J" ∈ wAll := wI6 151 (by decide +kernel) (by decide +kernel)
theorem fl_X11_33 : fl RX11 33 12 13 := ⟨RX11, TX11, 32, rfl, inA_X11, by decide, w_1446⟩
theorem dX11_goes_15 : decode cX11_goes 15 = .ok (.iload 4, 2) := by decide +kernel
theorem dX11_goes_17 : decode cX11_goes 17 = .ok (.lconst 0, 1) := by decide +kernel
theorem dX11_goes_18 : decode cX11_goes 18 = .ok (.lastore, 1) := by decide +kernel
theorem dX11_goes_19 : decode cX11_goes 19 = .ok (.iinc 4 1, 3) := by decide +kernel
theorem dX11_goes_22 : decode cX11_goes 22 = .ok (.goto (-19), 3) := by decide +kernel
theorem dX11_goes_25 : decode cX11_goes 25 = .ok (.aload_n 0, 1) := by decide +kernel
theorem dX11_goes_26 : decode cX11_goes 26 = .ok (.iload_n 1, 1) := by decide +kernel
theorem dX11_goes_27 : decode cX11_goes 27 = .ok (.bipush 8, 2) := by decide +kernel
theorem dX11_goes_29 : decode cX11_goes 29 = .ok (.invokevirtual 175, 3) := by decide +kernel
theorem dX11_goes_32 : decode cX11_goes 32 = .ok (.istore 4, 2) := by decide +kernel
theorem dX11_goes_34 : decode cX11_goes 34 = .ok (.aload_n 0, 1) := by decide +kernel
theorem dX11_goes_35 : decode cX11_goes 35 = .ok (.iload_n 1, 1) := by decide +kernel
theorem dX11_goes_36 : decode cX11_goes 36 = .ok (.bipush 9, 2) := by decide +kernel
theorem dX11_goes_38 : decode cX11_goes 38 = .ok (.invokevirtual 175, 3) := by decide +kernel
theorem dX11_goes_41 : decode cX11_goes 41 = .ok (.istore 5, 2) := by decide +kernel
theorem dX11_goes_43 : decode cX11_goes 43 = .ok (.iload 4, 2) := by decide +kernel
theorem dX11_goes_45 : decode cX11_goes 45 = .ok (.aload_n 0, 1) := by decide +kernel
theorem dX11_goes_46 : decode cX11_goes 46 = .ok (.getfield 209, 3) := by decide +kernel
theorem fl_X11_209 : fl RX11 209 12 14 := ⟨RX11, TX11, 32, rfl, inA_X11, by decide, w_1447⟩
theorem dX11_goes_49 : decode cX11_goes 49 = .ok (.isub, 1) := by decide +kernel
theorem dX11_goes_50 : decode cX11_goes 50 = .ok (.istore 6, 2) := by decide +kernel
theorem dX11_goes_52 : decode cX11_goes 52 = .ok (.iload 6, 2) := by decide +kernel
theorem dX11_goes_54 : decode cX11_goes 54 = .ok (.iload 4, 2) := by decide +kernel
theorem dX11_goes_56 : decode cX11_goes 56 = .ok (.aload_n 0, 1) := by decide +kernel
theorem dX11_goes_57 : decode cX11_goes 57 = .ok (.getfield 209, 3) := by decide +kernel
theorem dX11_goes_60 : decode cX11_goes 60 = .ok (.iadd, 1) := by decide +kernel
theorem dX11_goes_61 : decode cX11_goes 61 = .ok (.if_icmp .gt 153, 3) := by decide +kernel
theorem dX11_goes_214 : decode cX11_goes 214 = .ok (.aload_n 0, 1) := by decide +kernel
theorem dX11_goes_215 : decode cX11_goes 215 = .ok (.getfield 29, 3) := by decide +kernel
theorem dX11_goes_218 : decode cX11_goes 218 = .ok (.astore 6, 2) := by decide +kernel
theorem dX11_goes_220 : decode cX11_goes 220 = .ok (.aload_n 0, 1) := by decide +kernel
theorem dX11_goes_221 : decode cX11_goes 221 = .ok (.aload_n 0, 1) := by decide +kernel
theorem dX11_goes_222 : decode cX11_goes 222 = .ok (.getfield 33, 3) := by decide +kernel
theorem dX11_goes_225 : decode cX11_goes 225 = .ok (.putfield 29, 3) := by decide +kernel
theorem flw_X11_29 : flw RX11 29 12 12 (.array (.long)) := ⟨RX11, TX11, 32, tyX11, rfl, inA_X11, by decide, w_1445, tyX11_ok, nmX11, by decide +kernel, Or.inl rfl⟩
theorem dX11_goes_228 : decode cX11_goes 228 = .ok (.aload_n 0, 1) := by decide +kernel
theorem dX11_goes_229 : decode cX11_goes 229 = .ok (.aload 6, 2) := by decide +kernel
theorem dX11_goes_231 : decode cX11_goes 231 = .ok (.putfield 33, 3) := by decide +kernel
theorem flw_X11_33 : flw RX11 33 12 13 (.array (.long)) := ⟨RX11, TX11, 32, tyX11, rfl, inA_X11, by decide, w_1446, tyX11_ok, nmX11, by decide +kernel, Or.inl rfl⟩
theorem dX11_goes_234 : decode cX11_goes 234 = .ok (.aload_n 0, 1) := by decide +kernel
theorem dX11_goes_235 : decode cX11_goes 235 = .ok (.dup, 1) := by decide +kernel
theorem dX11_goes_236 : decode cX11_goes 236 = .ok (.getfield 209, 3) := by decide +kernel
theorem dX11_goes_239 : decode cX11_goes 239 = .ok (.iconst 1, 1) := by decide +kernel
theorem dX11_goes_240 : decode cX11_goes 240 = .ok (.iadd, 1) := by decide +kernel
theorem dX11_goes_241 : decode cX11_goes 241 = .ok (.putfield 209, 3) := by decide +kernel
theorem dX11_goes_64 : decode cX11_goes 64 = .ok (.iload 5, 2) := by decide +kernel
theorem dX11_goes_66 : decode cX11_goes 66 = .ok (.aload_n 0, 1) := by decide +kernel
theorem dX11_goes_67 : decode cX11_goes 67 = .ok (.getfield 209, 3) := by decide +kernel
theorem dX11_goes_70 : decode cX11_goes 70 = .ok (.isub, 1) := by decide +kernel
theorem dX11_goes_71 : decode cX11_goes 71 = .ok (.istore 7, 2) := by decide +kernel
theorem dX11_goes_73 : decode cX11_goes 73 = .ok (.iload 7, 2) := by decide +kernel
theorem dX11_goes_75 : decode cX11_goes 75 = .ok (.iload 5, 2) := by decide +kernel
theorem dX11_goes_77 : decode cX11_goes 77 = .ok (.aload_n 0, 1) := by decide +kernel
theorem dX11_goes_78 : decode cX11_goes 78 = .ok (.getfield 209, 3) := by decide +kernel
theorem dX11_goes_81 : decode cX11_goes 81 = .ok (.iadd, 1) := by decide +kernel
theorem dX11_goes_82 : decode cX11_goes 82 = .ok (.if_icmp .gt 126, 3) := by decide +kernel
theorem dX11_goes_208 : decode cX11_goes 208 = .ok (.iinc 6 1, 3) := by decide +kernel
theorem dX11_goes_211 : decode cX11_goes 211 = .ok (.goto (-159), 3) := by decide +kernel
theorem dX11_goes_85 : decode cX11_goes 85 = .ok (.aload_n 0, 1) := by decide +kernel
theorem dX11_goes_86 : decode cX11_goes 86 = .ok (.getfield 29, 3) := by decide +kernel
theorem dX11_goes_89 : decode cX11_goes 89 = .ok (.iload 6, 2) := by decide +kernel
theorem dX11_goes_91 : decode cX11_goes 91 = .ok (.iload 7, 2) := by decide +kernel
theorem dX11_goes_93 : decode cX11_goes 93 = .ok (.invokestatic 206, 3) := by decide +kernel
theorem dX11_goes_96 : decode cX11_goes 96 = .ok (.laload, 1) := by decide +kernel
theorem dX11_goes_97 : decode cX11_goes 97 = .ok (.lstore 8, 2) := by decide +kernel
theorem dX11_goes_99 : decode cX11_goes 99 = .ok (.lload 8, 2) := by decide +kernel
theorem dX11_goes_101 : decode cX11_goes 101 = .ok (.lconst 0, 1) := by decide +kernel
theorem dX11_goes_102 : decode cX11_goes 102 = .ok (.lcmp, 1) := by decide +kernel
theorem dX11_goes_103 : decode cX11_goes 103 = .ok (.ifCond .ne 6, 3) := by decide +kernel
theorem dX11_goes_109 : decode cX11_goes 109 = .ok (.iconst 0, 1) := by decide +kernel
theorem dX11_goes_110 : decode cX11_goes 110 = .ok (.istore 10, 2) := by decide +kernel
theorem dX11_goes_106 : decode cX11_goes 106 = .ok (.goto 96, 3) := by decide +kernel
theorem dX11_goes_202 : decode cX11_goes 202 = .ok (.iinc 7 1, 3) := by decide +kernel
theorem dX11_goes_205 : decode cX11_goes 205 = .ok (.goto (-132), 3) := by decide +kernel
theorem dX11_goes_112 : decode cX11_goes 112 = .ok (.iload 10, 2) := by decide +kernel
theorem dX11_goes_114 : decode cX11_goes 114 = .ok (.bipush 8, 2) := by decide +kernel
theorem dX11_goes_116 : decode cX11_goes 116 = .ok (.if_icmp .ge 86, 3) := by decide +kernel
theorem dX11_goes_119 : decode cX11_goes 119 = .ok (.aload_n 0, 1) := by decide +kernel
theorem dX11_goes_120 : decode cX11_goes 120 = .ok (.iload_n 1, 1) := by decide +kernel
theorem dX11_goes_121 : decode cX11_goes 121 = .ok (.iload 10, 2) := by decide +kernel
theorem dX11_goes_123 : decode cX11_goes 123 = .ok (.invokevirtual 175, 3) := by decide +kernel
theorem dX11_goes_126 : decode cX11_goes 126 = .ok (.istore 11, 2) := by decide +kernel
theorem dX11_goes_128 : decode cX11_goes 128 = .ok (.iload 6, 2) := by decide +kernel
theorem dX11_goes_130 : decode cX11_goes 130 = .ok (.iload 10, 2) := by decide +kernel
theorem dX11_goes_132 : decode cX11_goes 132 = .ok (.invokestatic 191, 3) := by decide +kernel
theorem w_1675 : Cond.methodLink "QuarterWalksModel" 191 yX11_dx ∈ wAll := wI7 140 (by decide +kernel) (by decide +kernel)
theorem mk_X11_dx : mk yX11_dx 1 := ⟨by decide +kernel, w_110⟩
theorem w_1676 : Cond.static yX11_dx ∈ wAll := wI7 141 (by decide +kernel) (by decide +kernel)
theorem w_1677 : Cond.code yX11_dx cX11_dx 1 (some .int) ∈ wAll := wI7 142 (by decide +kernel) (by decide +kernel)
theorem dX11_goes_135 : decode cX11_goes 135 = .ok (.iadd, 1) := by decide +kernel
theorem dX11_goes_136 : decode cX11_goes 136 = .ok (.istore 12, 2) := by decide +kernel
theorem dX11_goes_138 : decode cX11_goes 138 = .ok (.iload 7, 2) := by decide +kernel
theorem dX11_goes_140 : decode cX11_goes 140 = .ok (.iload 10, 2) := by decide +kernel
theorem dX11_goes_142 : decode cX11_goes 142 = .ok (.invokestatic 194, 3) := by decide +kernel
theorem w_1678 : Cond.methodLink "QuarterWalksModel" 194 yX11_dy ∈ wAll := wI7 143 (by decide +kernel) (by decide +kernel)
theorem mk_X11_dy : mk yX11_dy 1 := ⟨by decide +kernel, w_110⟩
theorem w_1679 : Cond.static yX11_dy ∈ wAll := wI7 144 (by decide +kernel) (by decide +kernel)
theorem w_1680 : Cond.code yX11_dy cX11_dy 1 (some .int) ∈ wAll := wI7 145 (by decide +kernel) (by decide +kernel)
theorem dX11_goes_145 : decode cX11_goes 145 = .ok (.iadd, 1) := by decide +kernel
theorem dX11_goes_146 : decode cX11_goes 146 = .ok (.istore 13, 2) := by decide +kernel
theorem dX11_goes_148 : decode cX11_goes 148 = .ok (.iload 11, 2) := by decide +kernel
theorem dX11_goes_150 : decode cX11_goes 150 = .ok (.ifCond .le 46, 3) := by decide +kernel
theorem dX11_goes_196 : decode cX11_goes 196 = .ok (.iinc 10 1, 3) := by decide +kernel
theorem dX11_goes_199 : decode cX11_goes 199 = .ok (.goto (-87), 3) := by decide +kernel
theorem dX11_goes_153 : decode cX11_goes 153 = .ok (.iload_n 2, 1) := by decide +kernel
theorem dX11_goes_154 : decode cX11_goes 154 = .ok (.iload 12, 2) := by decide +kernel
theorem dX11_goes_156 : decode cX11_goes 156 = .ok (.iload 13, 2) := by decide +kernel
theorem dX11_goes_158 : decode cX11_goes 158 = .ok (.invokestatic 214, 3) := by decide +kernel
theorem w_1713 : Cond.methodLink "QuarterWalksModel" 214 yX11_isInside ∈ wAll := wI7 178 (by decide +kernel) (by decide +kernel)
theorem mk_X11_isInside : mk yX11_isInside 3 := ⟨by decide +kernel, w_110⟩
theorem w_1714 : Cond.static yX11_isInside ∈ wAll := wI7 179 (by decide +kernel) (by decide +kernel)
theorem w_1715 : Cond.code yX11_isInside cX11_isInside 3 (some .boolean) ∈ wAll := wI7 180 (by decide +kernel) (by decide +kernel)
theorem dX11_goes_161 : decode cX11_goes 161 = .ok (.ifCond .eq 35, 3) := by decide +kernel
theorem dX11_goes_164 : decode cX11_goes 164 = .ok (.aload_n 0, 1) := by decide +kernel
theorem dX11_goes_165 : decode cX11_goes 165 = .ok (.getfield 33, 3) := by decide +kernel
theorem dX11_goes_168 : decode cX11_goes 168 = .ok (.iload 12, 2) := by decide +kernel
theorem dX11_goes_170 : decode cX11_goes 170 = .ok (.iload 13, 2) := by decide +kernel
theorem dX11_goes_172 : decode cX11_goes 172 = .ok (.invokestatic 206, 3) := by decide +kernel
theorem dX11_goes_175 : decode cX11_goes 175 = .ok (.aload_n 0, 1) := by decide +kernel
theorem dX11_goes_176 : decode cX11_goes 176 = .ok (.getfield 33, 3) := by decide +kernel
theorem dX11_goes_179 : decode cX11_goes 179 = .ok (.iload 12, 2) := by decide +kernel
theorem dX11_goes_181 : decode cX11_goes 181 = .ok (.iload 13, 2) := by decide +kernel
theorem dX11_goes_183 : decode cX11_goes 183 = .ok (.invokestatic 206, 3) := by decide +kernel
theorem dX11_goes_186 : decode cX11_goes 186 = .ok (.laload, 1) := by decide +kernel
theorem dX11_goes_187 : decode cX11_goes 187 = .ok (.lload 8, 2) := by decide +kernel
theorem dX11_goes_189 : decode cX11_goes 189 = .ok (.iload 11, 2) := by decide +kernel
theorem dX11_goes_191 : decode cX11_goes 191 = .ok (.iload_n 3, 1) := by decide +kernel
theorem dX11_goes_192 : decode cX11_goes 192 = .ok (.invokestatic 218, 3) := by decide +kernel
theorem w_1716 : Cond.methodLink "QuarterWalksModel" 218 yX11_with ∈ wAll := wI7 181 (by decide +kernel) (by decide +kernel)
theorem mk_X11_with : mk yX11_with 4 := ⟨by decide +kernel, w_110⟩
theorem w_1717 : Cond.static yX11_with ∈ wAll := wI7 182 (by decide +kernel) (by decide +kernel)
theorem w_1718 : Cond.code yX11_with cX11_with 6 (some .long) ∈ wAll := wI7 183 (by decide +kernel) (by decide +kernel)
theorem dX11_goes_195 : decode cX11_goes 195 = .ok (.lastore, 1) := by decide +kernel
theorem dX11_goes_244 : decode cX11_goes 244 = .ok (.return_, 1) := by decide +kernel
theorem dX11_goesOn_0 : decode cX11_goesOn 0 = .ok (.aload_n 0, 1) := by decide +kernel
theorem dX11_goesOn_1 : decode cX11_goesOn 1 = .ok (.iload_n 1, 1) := by decide +kernel
theorem dX11_goesOn_2 : decode cX11_goesOn 2 = .ok (.invokevirtual 222, 3) := by decide +kernel
theorem w_1702 : Cond.methodLink "QuarterWalksModel" 222 yX11_begins ∈ wAll := wI7 167 (by decide +kernel) (by decide +kernel)
theorem w_58 : Cond.selects yX11_begins.cls yX11_begins yX11_begins ∈ wAll := wIn 58 (by decide +kernel) (by decide +kernel)
theorem mk_X11_begins : mk yX11_begins 1 := ⟨by decide +kernel, w_110⟩
theorem w_1704 : Cond.instanceMethod yX11_begins ∈ wAll := wI7 169 (by decide +kernel) (by decide +kernel)
theorem w_1705 : Cond.code yX11_begins cX11_begins 3 none ∈ wAll := wI7 170 (by decide +kernel) (by decide +kernel)
theorem dX11_goesOn_5 : decode cX11_goesOn 5 = .ok (.iconst 0, 1) := by decide +kernel
theorem dX11_goesOn_6 : decode cX11_goesOn 6 = .ok (.istore 5, 2) := by decide +kernel
theorem dX11_goesOn_8 : decode cX11_goesOn 8 = .ok (.iload 5, 2) := by decide +kernel
theorem dX11_goesOn_10 : decode cX11_goesOn 10 = .ok (.iload 4, 2) := by decide +kernel
theorem dX11_goesOn_12 : decode cX11_goesOn 12 = .ok (.if_icmp .ge 16, 3) := by decide +kernel
theorem dX11_goesOn_15 : decode cX11_goesOn 15 = .ok (.aload_n 0, 1) := by decide +kernel
theorem dX11_goesOn_16 : decode cX11_goesOn 16 = .ok (.iload_n 1, 1) := by decide +kernel
theorem dX11_goesOn_17 : decode cX11_goesOn 17 = .ok (.iload_n 2, 1) := by decide +kernel
theorem dX11_goesOn_18 : decode cX11_goesOn 18 = .ok (.iload_n 3, 1) := by decide +kernel
theorem dX11_goesOn_19 : decode cX11_goesOn 19 = .ok (.invokevirtual 225, 3) := by decide +kernel
theorem w_1709 : Cond.methodLink "QuarterWalksModel" 225 yX11_goes ∈ wAll := wI7 174 (by decide +kernel) (by decide +kernel)
theorem w_59 : Cond.selects yX11_goes.cls yX11_goes yX11_goes ∈ wAll := wIn 59 (by decide +kernel) (by decide +kernel)
theorem mk_X11_goes : mk yX11_goes 3 := ⟨by decide +kernel, w_110⟩
theorem w_1711 : Cond.instanceMethod yX11_goes ∈ wAll := wI7 176 (by decide +kernel) (by decide +kernel)
theorem w_1712 : Cond.code yX11_goes cX11_goes 14 none ∈ wAll := wI7 177 (by decide +kernel) (by decide +kernel)
theorem dX11_goesOn_22 : decode cX11_goesOn 22 = .ok (.iinc 5 1, 3) := by decide +kernel
theorem dX11_goesOn_25 : decode cX11_goesOn 25 = .ok (.goto (-17), 3) := by decide +kernel
theorem dX11_goesOn_28 : decode cX11_goesOn 28 = .ok (.return_, 1) := by decide +kernel
theorem dX11_gridAt_0 : decode cX11_gridAt 0 = .ok (.iload_n 1, 1) := by decide +kernel
theorem dX11_gridAt_1 : decode cX11_gridAt 1 = .ok (.i2l, 1) := by decide +kernel
theorem dX11_gridAt_2 : decode cX11_gridAt 2 = .ok (.ldc2_w 229, 3) := by decide +kernel
theorem w_1724 : Cond.constantLong "QuarterWalksModel" 229 (-65) ∈ wAll := wI7 189 (by decide +kernel) (by decide +kernel)
theorem dX11_gridAt_5 : decode cX11_gridAt 5 = .ok (.ldc2_w 231, 3) := by decide +kernel
theorem w_1725 : Cond.constantLong "QuarterWalksModel" 231 74 ∈ wAll := wI7 190 (by decide +kernel) (by decide +kernel)
theorem dX11_gridAt_8 : decode cX11_gridAt 8 = .ok (.invokestatic 158, 3) := by decide +kernel
theorem dX11_gridAt_11 : decode cX11_gridAt 11 = .ok (.ifCond .eq 30, 3) := by decide +kernel
theorem dX11_gridAt_41 : decode cX11_gridAt 41 = .ok (.lconst 0, 1) := by decide +kernel
theorem dX11_gridAt_14 : decode cX11_gridAt 14 = .ok (.iload_n 2, 1) := by decide +kernel
theorem dX11_gridAt_15 : decode cX11_gridAt 15 = .ok (.i2l, 1) := by decide +kernel
theorem dX11_gridAt_16 : decode cX11_gridAt 16 = .ok (.ldc2_w 229, 3) := by decide +kernel
theorem dX11_gridAt_19 : decode cX11_gridAt 19 = .ok (.ldc2_w 231, 3) := by decide +kernel
theorem dX11_gridAt_22 : decode cX11_gridAt 22 = .ok (.invokestatic 158, 3) := by decide +kernel
theorem dX11_gridAt_25 : decode cX11_gridAt 25 = .ok (.ifCond .eq 16, 3) := by decide +kernel
theorem dX11_gridAt_28 : decode cX11_gridAt 28 = .ok (.aload_n 0, 1) := by decide +kernel
theorem dX11_gridAt_29 : decode cX11_gridAt 29 = .ok (.getfield 29, 3) := by decide +kernel
theorem dX11_gridAt_32 : decode cX11_gridAt 32 = .ok (.iload_n 1, 1) := by decide +kernel
theorem dX11_gridAt_33 : decode cX11_gridAt 33 = .ok (.iload_n 2, 1) := by decide +kernel
theorem dX11_gridAt_34 : decode cX11_gridAt 34 = .ok (.invokestatic 206, 3) := by decide +kernel
theorem dX11_gridAt_37 : decode cX11_gridAt 37 = .ok (.laload, 1) := by decide +kernel
theorem dX11_gridAt_38 : decode cX11_gridAt 38 = .ok (.goto 4, 3) := by decide +kernel
theorem dX11_gridAt_42 : decode cX11_gridAt 42 = .ok (.lreturn, 1) := by decide +kernel
abbrev rm_s_X11_isIn : Room := { frames := 0, cells := 0, slots := 0, locals := 0 }
set_option maxRecDepth 100000 in
set_option maxHeartbeats 4000000 in
theorem s_X11_isIn (l : Launch) (D : va_G) (G : Nat → Nat) (b0 : Nat) (τ : Nat → Nat) (f : hM) (t : TI G 9 τ f) (u0 : Int64) (u1 : Int64) (u2 : Int64) : mI l yX11_isIn cX11_isIn 6 (.boolean) rm_s_X11_isIn D G b0 f [.long u0, .long u1, .long u2] (fun r f1 => iv r 0 1 ∧ TI G 9 τ f1 ∧ Fr [] τ f f1 ∧ (r.toInt ≠ 0 → u1.toInt ≤ u0.toInt ∧ u0.toInt ≤ u2.toInt)) := by
  refine met2 (own := RX11) (by decide) rfl (Nat.le_of_ble_eq_true rfl) ?_
  intro p e s m args below meth c ls Q hQ C hr hini hl h
  have hl : lv_has ls 6 [(0, .long u0), (2, .long u1), (4, .long u2)] := hl
  obtain ⟨hx, hb, hml, hown, hts, hE0, hlk⟩ := id C
  have o := Fr.rf [] τ f
  refine lv_lload_n hx hb dX11_isIn_0 rfl (lv_at hl 0 rfl) ?_
  refine lv_lload_n hx hb dX11_isIn_1 rfl (lv_at hl 1 rfl) ?_
  refine W.lcmp hx hb dX11_isIn_2 (i_topc (fun z1 ez1 mz1 iz1 => ?_))
  refine lv_if_lt (tgt := 17) hx hb dX11_isIn_3 (by decide) (fun c2 => ?_) (fun c2 => ?_)
  · have c3 : z1.toInt < 0 := Int32.lt_iff_toInt_lt.mp c2
    have i4 : iv z1 (-1) (-1) := iv_Ll c3 iz1 (iv_k (x := 0) (k := 0) rfl) (by decide)
    refine lv_iconst (v := 0) hx hb dX11_isIn_17 (by decide) ?_
    exact u_zret C h hr hQ ⟨by decide, by decide⟩ (⟨⟨by decide, by decide⟩, t, o, (fun h_ => absurd h_ (by decide))⟩) (Nat.le_of_ble_eq_true rfl) (Nat.le_of_ble_eq_true rfl) dX11_isIn_18
  · have c5 : 0 ≤ z1.toInt := Int32.le_iff_toInt_le.mp (iv_nlt c2)
    have i6 : iv z1 0 1 := iv_Er c5 (iv_k (x := 0) (k := 0) rfl) iz1 (by decide)
    refine lv_lload_n hx hb dX11_isIn_6 rfl (lv_at hl 0 rfl) ?_
    refine lv_lload hx hb dX11_isIn_7 (lv_at hl 2 rfl) ?_
    refine W.lcmp hx hb dX11_isIn_9 (i_topc (fun z7 ez7 mz7 iz7 => ?_))
    refine lv_if_gt (tgt := 17) hx hb dX11_isIn_10 (by decide) (fun c8 => ?_) (fun c8 => ?_)
    · have c9 : 0 < z7.toInt := Int32.lt_iff_toInt_lt.mp c8
      have i10 : iv z7 1 1 := iv_Lr c9 (iv_k (x := 0) (k := 0) rfl) iz7 (by decide)
      refine lv_iconst (v := 0) hx hb dX11_isIn_17 (by decide) ?_
      exact u_zret C h hr hQ ⟨by decide, by decide⟩ (⟨⟨by decide, by decide⟩, t, o, (fun h_ => absurd h_ (by decide))⟩) (Nat.le_of_ble_eq_true rfl) (Nat.le_of_ble_eq_true rfl) dX11_isIn_18
    · have c11 : z7.toInt ≤ 0 := Int32.le_iff_toInt_le.mp (iv_nlt c8)
      have i12 : iv z7 (-1) 0 := iv_El c11 iz7 (iv_k (x := 0) (k := 0) rfl) (by decide)
      refine lv_iconst (v := 1) hx hb dX11_isIn_13 (by decide) ?_
      refine lv_goto (tgt := 18) hx hb dX11_isIn_14 (by decide) ?_
      exact u_zret C h hr hQ ⟨by decide, by decide⟩ (⟨⟨by decide, by decide⟩, t, o, (fun _ => ⟨(by omega), (by omega)⟩)⟩) (Nat.le_of_ble_eq_true rfl) (Nat.le_of_ble_eq_true rfl) dX11_isIn_18
abbrev rm_s_X11_dx : Room := { frames := 0, cells := 0, slots := 0, locals := 0 }
set_option maxRecDepth 100000 in
set_option maxHeartbeats 4000000 in
theorem s_X11_dx (l : Launch) (D : va_G) (G : Nat → Nat) (b0 : Nat) (τ : Nat → Nat) (f : hM) (t : TI G 9 τ f) (u0 : Int32) (hu0 : iv u0 (-2147483648) 2147483647) : mI l yX11_dx cX11_dx 1 (.int) rm_s_X11_dx D G b0 f [.int u0] (fun r f1 => iv r (-1) 1 ∧ TI G 9 τ f1 ∧ Fr [] τ f f1) := by
  refine met2 (own := RX11) (by decide) rfl (Nat.le_of_ble_eq_true rfl) ?_
  intro p e s m args below meth c ls Q hQ C hr hini hl h
  have hl : lv_has ls 1 [(0, .int u0)] := hl
  obtain ⟨hx, hb, hml, hown, hts, hE0, hlk⟩ := id C
  have o := Fr.rf [] τ f
  refine lv_iload_n hx hb dX11_dx_0 rfl (lv_at hl 0 rfl) ?_
  refine lv_if_eq (tgt := 9) hx hb dX11_dx_1 (by decide) (fun c1 => ?_) (fun c1 => ?_)
  · have c2 : u0.toInt = 0 := congrArg Int32.toInt c1
    have i3 : iv u0 0 0 := iv_Q c2 hu0 (iv_k (x := 0) (k := 0) rfl) (by decide)
    refine lv_iconst (v := 0) hx hb dX11_dx_9 (by decide) ?_
    refine lv_goto (tgt := 23) hx hb dX11_dx_10 (by decide) ?_
    exact u_iret C h hr hQ (⟨⟨by decide, by decide⟩, t, o⟩) (Nat.le_of_ble_eq_true rfl) (Nat.le_of_ble_eq_true rfl) dX11_dx_23
  · have c4 : u0.toInt ≠ 0 := fun z_ => c1 (Int32.toInt_inj.mp z_)
    refine lv_iload_n hx hb dX11_dx_4 rfl (lv_at hl 0 rfl) ?_
    refine lv_iconst (v := 4) hx hb dX11_dx_5 (by decide) ?_
    refine lv_icmp_ne (tgt := 13) hx hb dX11_dx_6 (by decide) (fun c5 => ?_) (fun c5 => ?_)
    · have c6 : u0.toInt ≠ 4 := fun z_ => c5 (Int32.toInt_inj.mp z_)
      refine lv_iload_n hx hb dX11_dx_13 rfl (lv_at hl 0 rfl) ?_
      refine lv_iconst (v := 4) hx hb dX11_dx_14 (by decide) ?_
      refine lv_icmp_ge (tgt := 22) hx hb dX11_dx_15 (by decide) (fun c9 => ?_) (fun c9 => ?_)
      · have c10 : 4 ≤ u0.toInt := Int32.le_iff_toInt_le.mp c9
        have i11 : iv u0 4 2147483647 := iv_Er c10 (iv_k (x := 4) (k := 4) rfl) hu0 (by decide)
        refine lv_iconst (v := -1) hx hb dX11_dx_22 (by decide) ?_
        exact u_iret C h hr hQ (⟨⟨by decide, by decide⟩, t, o⟩) (Nat.le_of_ble_eq_true rfl) (Nat.le_of_ble_eq_true rfl) dX11_dx_23
      · have c12 : u0.toInt < 4 := Int32.lt_iff_toInt_lt.mp (iv_nle c9)
        have i13 : iv u0 (-2147483648) 3 := iv_Ll c12 hu0 (iv_k (x := 4) (k := 4) rfl) (by decide)
        refine lv_iconst (v := 1) hx hb dX11_dx_18 (by decide) ?_
        refine lv_goto (tgt := 23) hx hb dX11_dx_19 (by decide) ?_
        exact u_iret C h hr hQ (⟨⟨by decide, by decide⟩, t, o⟩) (Nat.le_of_ble_eq_true rfl) (Nat.le_of_ble_eq_true rfl) dX11_dx_23
    · have c7 : u0.toInt = 4 := congrArg Int32.toInt c5
      have i8 : iv u0 4 4 := iv_Q c7 hu0 (iv_k (x := 4) (k := 4) rfl) (by decide)
      refine lv_iconst (v := 0) hx hb dX11_dx_9 (by decide) ?_
      refine lv_goto (tgt := 23) hx hb dX11_dx_10 (by decide) ?_
      exact u_iret C h hr hQ (⟨⟨by decide, by decide⟩, t, o⟩) (Nat.le_of_ble_eq_true rfl) (Nat.le_of_ble_eq_true rfl) dX11_dx_23
abbrev rm_s_X11_dy : Room := { frames := 0, cells := 0, slots := 0, locals := 0 }
set_option maxRecDepth 100000 in
set_option maxHeartbeats 4000000 in
theorem s_X11_dy (l : Launch) (D : va_G) (G : Nat → Nat) (b0 : Nat) (τ : Nat → Nat) (f : hM) (t : TI G 9 τ f) (u0 : Int32) (hu0 : iv u0 (-2147483648) 2147483647) : mI l yX11_dy cX11_dy 1 (.int) rm_s_X11_dy D G b0 f [.int u0] (fun r f1 => iv r (-1) 1 ∧ TI G 9 τ f1 ∧ Fr [] τ f f1) := by
  refine met2 (own := RX11) (by decide) rfl (Nat.le_of_ble_eq_true rfl) ?_
  intro p e s m args below meth c ls Q hQ C hr hini hl h
  have hl : lv_has ls 1 [(0, .int u0)] := hl
  obtain ⟨hx, hb, hml, hown, hts, hE0, hlk⟩ := id C
  have o := Fr.rf [] τ f
  refine lv_iload_n hx hb dX11_dy_0 rfl (lv_at hl 0 rfl) ?_
  refine lv_iconst (v := 2) hx hb dX11_dy_1 (by decide) ?_
  refine lv_icmp_eq (tgt := 11) hx hb dX11_dy_2 (by decide) (fun c1 => ?_) (fun c1 => ?_)
  · have c2 : u0.toInt = 2 := congrArg Int32.toInt c1
    have i3 : iv u0 2 2 := iv_Q c2 hu0 (iv_k (x := 2) (k := 2) rfl) (by decide)
    refine lv_iconst (v := 0) hx hb dX11_dy_11 (by decide) ?_
    refine lv_goto (tgt := 31) hx hb dX11_dy_12 (by decide) ?_
    exact u_iret C h hr hQ (⟨⟨by decide, by decide⟩, t, o⟩) (Nat.le_of_ble_eq_true rfl) (Nat.le_of_ble_eq_true rfl) dX11_dy_31
  · have c4 : u0.toInt ≠ 2 := fun z_ => c1 (Int32.toInt_inj.mp z_)
    refine lv_iload_n hx hb dX11_dy_5 rfl (lv_at hl 0 rfl) ?_
    refine lv_bipush (v := 6) hx hb dX11_dy_6 (by decide) ?_
    refine lv_icmp_ne (tgt := 15) hx hb dX11_dy_8 (by decide) (fun c5 => ?_) (fun c5 => ?_)
    · have c6 : u0.toInt ≠ 6 := fun z_ => c5 (Int32.toInt_inj.mp z_)
      refine lv_iload_n hx hb dX11_dy_15 rfl (lv_at hl 0 rfl) ?_
      refine lv_iconst (v := 2) hx hb dX11_dy_16 (by decide) ?_
      refine lv_icmp_lt (tgt := 26) hx hb dX11_dy_17 (by decide) (fun c9 => ?_) (fun c9 => ?_)
      · have c10 : u0.toInt < 2 := Int32.lt_iff_toInt_lt.mp c9
        have i11 : iv u0 (-2147483648) 1 := iv_Ll c10 hu0 (iv_k (x := 2) (k := 2) rfl) (by decide)
        refine lv_iconst (v := 1) hx hb dX11_dy_26 (by decide) ?_
        refine lv_goto (tgt := 31) hx hb dX11_dy_27 (by decide) ?_
        exact u_iret C h hr hQ (⟨⟨by decide, by decide⟩, t, o⟩) (Nat.le_of_ble_eq_true rfl) (Nat.le_of_ble_eq_true rfl) dX11_dy_31
      · have c12 : 2 ≤ u0.toInt := Int32.le_iff_toInt_le.mp (iv_nlt c9)
        have i13 : iv u0 2 2147483647 := iv_Er c12 (iv_k (x := 2) (k := 2) rfl) hu0 (by decide)
        refine lv_iload_n hx hb dX11_dy_20 rfl (lv_at hl 0 rfl) ?_
        refine lv_bipush (v := 7) hx hb dX11_dy_21 (by decide) ?_
        refine lv_icmp_ne (tgt := 30) hx hb dX11_dy_23 (by decide) (fun c14 => ?_) (fun c14 => ?_)
        · have c15 : u0.toInt ≠ 7 := fun z_ => c14 (Int32.toInt_inj.mp z_)
          refine lv_iconst (v := -1) hx hb dX11_dy_30 (by decide) ?_
          exact u_iret C h hr hQ (⟨⟨by decide, by decide⟩, t, o⟩) (Nat.le_of_ble_eq_true rfl) (Nat.le_of_ble_eq_true rfl) dX11_dy_31
        · have c16 : u0.toInt = 7 := congrArg Int32.toInt c14
          have i17 : iv u0 7 7 := iv_Q c16 i13 (iv_k (x := 7) (k := 7) rfl) (by decide)
          refine lv_iconst (v := 1) hx hb dX11_dy_26 (by decide) ?_
          refine lv_goto (tgt := 31) hx hb dX11_dy_27 (by decide) ?_
          exact u_iret C h hr hQ (⟨⟨by decide, by decide⟩, t, o⟩) (Nat.le_of_ble_eq_true rfl) (Nat.le_of_ble_eq_true rfl) dX11_dy_31
    · have c7 : u0.toInt = 6 := congrArg Int32.toInt c5
      have i8 : iv u0 6 6 := iv_Q c7 hu0 (iv_k (x := 6) (k := 6) rfl) (by decide)
      refine lv_iconst (v := 0) hx hb dX11_dy_11 (by decide) ?_
      refine lv_goto (tgt := 31) hx hb dX11_dy_12 (by decide) ?_
      exact u_iret C h hr hQ (⟨⟨by decide, by decide⟩, t, o⟩) (Nat.le_of_ble_eq_true rfl) (Nat.le_of_ble_eq_true rfl) dX11_dy_31
abbrev rm_s_X11_isSet : Room := { frames := 1, cells := 0, slots := 0, locals := 25 }
set_option maxRecDepth 100000 in
set_option maxHeartbeats 4000000 in
theorem s_X11_isSet (l : Launch) (D : va_G) (G : Nat → Nat) (b0 : Nat) (τ : Nat → Nat) (f : hM) (t : TI G 9 τ f) (u0 : Nat) (hu0 : τ u0 = 60) (u1 : Int32) (hu1 : iv u1 (-2147483648) 2147483647) : mI l yX11_isSet cX11_isSet 2 (.boolean) rm_s_X11_isSet D G b0 f [.ref u0, .int u1] (fun r f1 => iv r 0 1 ∧ TI G 9 τ f1 ∧ Fr [] τ f f1 ∧ (r.toInt ≠ 0 → iv u1 0 7)) := by
  refine met2 (own := RX11) (by decide) rfl (Nat.le_of_ble_eq_true rfl) ?_
  intro p e s m args below meth c ls Q hQ C hr hini hl h
  have hl : lv_has ls 2 [(0, .ref u0), (1, .int u1)] := hl
  obtain ⟨hx, hb, hml, hown, hts, hE0, hlk⟩ := id C
  have o := Fr.rf [] τ f
  refine lv_iload_n hx hb dX11_isSet_0 rfl (lv_at hl 1 rfl) ?_
  refine lv_i2l hx hb dX11_isSet_1 rfl (i_topL hu1 (fun w1 ew1 mw1 iw1 => ?_))
  refine lv_lconst (v := 0) hx hb dX11_isSet_2 (by decide) ?_
  refine lv_aload_n hx hb dX11_isSet_3 rfl (lv_at hl 0 rfl) ?_
  refine t_getr (tq := 63) C h t hu0 (by decide) wf_60 rfl fl_X11_17 dX11_isSet_4 (fun q2 tq2 => ?_)
  refine lv_bipush (v := 80) hx hb dX11_isSet_7 (by decide) ?_
  refine t_bk80 C h t tq2 (by decide) wf_63 dX11_isSet_9 (fun z3 iz3 => ?_)
  refine lv_iconst (v := 1) hx hb dX11_isSet_10 (by decide) ?_
  refine i_subk hx hb dX11_isSet_11 iz3 (k := 1) rfl (lo := (-1)) (hi := 7) (by decide) (fun z4 ez4 mz4 iz4 => ?_)
  refine lv_i2l hx hb dX11_isSet_12 rfl (i_topL iz4 (fun w5 ew5 mw5 iw5 => ?_))
  refine k_i (r_S C h hl (As := [.long w1, .long 0, .long w5]) (rest := []) (s_X11_isIn l D G b0 τ f t w1 0 w5) mk_X11_isIn w_1624 w_1625 w_1626 ⟨Nat.le_of_ble_eq_true rfl, Nat.le_of_ble_eq_true rfl⟩ rfl (Nat.le_of_ble_eq_true rfl) ⟨Nat.le_of_ble_eq_true rfl, Nat.le_of_ble_eq_true rfl⟩ rfl dX11_isSet_13) h (fun r6 f7 H locs p8 h => ?_)
  have n9 : (0 : Int64).toInt = 0 := rfl
  obtain ⟨ir6, tf7, ogf7, cnr6⟩ := p8
  have egf7 := Fr.nil2 ogf7
  subst egf7
  exact u_zret C h hr hQ ir6 (⟨ir6, t, o, (by intro h_; have h9_ := cnr6 h_; omega)⟩) (Nat.le_of_ble_eq_true rfl) (Nat.le_of_ble_eq_true rfl) dX11_isSet_16
abbrev rm_s_X11_weightOf : Room := { frames := 0, cells := 0, slots := 0, locals := 0 }
set_option maxRecDepth 100000 in
set_option maxHeartbeats 4000000 in
theorem s_X11_weightOf (l : Launch) (D : va_G) (G : Nat → Nat) (b0 : Nat) (τ : Nat → Nat) (f : hM) (t : TI G 9 τ f) (u0 : Nat) (hu0 : τ u0 = 60) (u1 : Int32) (hu1 : iv u1 0 7) (u2 : Int32) (hu2 : iv u2 0 9) : mI l yX11_weightOf cX11_weightOf 3 (.int) rm_s_X11_weightOf D G b0 f [.ref u0, .int u1, .int u2] (fun r f1 => iv r 0 9 ∧ TI G 9 τ f1 ∧ Fr [] τ f f1) := by
  refine met2 (own := RX11) (by decide) rfl (Nat.le_of_ble_eq_true rfl) ?_
  intro p e s m args below meth c ls Q hQ C hr hini hl h
  have hl : lv_has ls 3 [(0, .ref u0), (1, .int u1), (2, .int u2)] := hl
  obtain ⟨hx, hb, hml, hown, hts, hE0, hlk⟩ := id C
  have o := Fr.rf [] τ f
  refine lv_aload_n hx hb dX11_weightOf_0 rfl (lv_at hl 0 rfl) ?_
  refine t_getr (tq := 63) C h t hu0 (by decide) wf_60 rfl fl_X11_17 dX11_weightOf_1 (fun q1 tq1 => ?_)
  refine lv_bipush (v := 10) hx hb dX11_weightOf_4 (by decide) ?_
  refine lv_iload_n hx hb dX11_weightOf_6 rfl (lv_at hl 1 rfl) ?_
  refine i_cmul hx hb dX11_weightOf_7 (k := 10) rfl hu1 (lo := 0) (hi := 70) (by decide) (fun z2 ez2 mz2 iz2 => ?_)
  refine lv_iload_n hx hb dX11_weightOf_8 rfl (lv_at hl 2 rfl) ?_
  refine i_add hx hb dX11_weightOf_9 iz2 hu2 (lo := 0) (hi := 79) (by decide) (fun z3 ez3 mz3 iz3 => ?_)
  refine t_bk C h t tq1 (by decide) wf_63 iz3 (by decide) dX11_weightOf_10 (fun z4 iz4 => ?_)
  exact u_iret C h hr hQ (⟨iz4, t, o⟩) (Nat.le_of_ble_eq_true rfl) (Nat.le_of_ble_eq_true rfl) dX11_weightOf_11
abbrev rm_s_X11_cell : Room := { frames := 0, cells := 0, slots := 0, locals := 0 }
set_option maxRecDepth 100000 in
set_option maxHeartbeats 4000000 in
theorem s_X11_cell (l : Launch) (D : va_G) (G : Nat → Nat) (b0 : Nat) (τ : Nat → Nat) (f : hM) (t : TI G 9 τ f) (u0 : Int32) (hu0 : iv u0 (-65) 74) (u1 : Int32) (hu1 : iv u1 (-65) 74) : mI l yX11_cell cX11_cell 2 (.int) rm_s_X11_cell D G b0 f [.int u0, .int u1] (fun r f1 => iv r 0 19599 ∧ TI G 9 τ f1 ∧ Fr [] τ f f1 ∧ (r.toInt = (u0.toInt + 65) * 140 + u1.toInt + 65)) := by
  refine met2 (own := RX11) (by decide) rfl (Nat.le_of_ble_eq_true rfl) ?_
  intro p e s m args below meth c ls Q hQ C hr hini hl h
  have hl : lv_has ls 2 [(0, .int u0), (1, .int u1)] := hl
  obtain ⟨hx, hb, hml, hown, hts, hE0, hlk⟩ := id C
  have o := Fr.rf [] τ f
  refine lv_sipush (v := 140) hx hb dX11_cell_0 (by decide) ?_
  refine lv_iload_n hx hb dX11_cell_3 rfl (lv_at hl 0 rfl) ?_
  refine lv_bipush (v := 65) hx hb dX11_cell_4 (by decide) ?_
  refine i_addk hx hb dX11_cell_6 hu0 (k := 65) rfl (lo := 0) (hi := 139) (by decide) (fun z1 ez1 mz1 iz1 => ?_)
  refine i_cmul hx hb dX11_cell_7 (k := 140) rfl iz1 (lo := 0) (hi := 19460) (by decide) (fun z2 ez2 mz2 iz2 => ?_)
  refine lv_iload_n hx hb dX11_cell_8 rfl (lv_at hl 1 rfl) ?_
  refine i_add hx hb dX11_cell_9 iz2 hu1 (lo := (-65)) (hi := 19534) (by decide) (fun z3 ez3 mz3 iz3 => ?_)
  refine lv_bipush (v := 65) hx hb dX11_cell_10 (by decide) ?_
  refine i_addk hx hb dX11_cell_12 iz3 (k := 65) rfl (lo := 0) (hi := 19599) (by decide) (fun z4 ez4 mz4 iz4 => ?_)
  exact u_iret C h hr hQ (⟨iz4, t, o, (by omega)⟩) (Nat.le_of_ble_eq_true rfl) (Nat.le_of_ble_eq_true rfl) dX11_cell_13
abbrev rm_s_X11_isInside : Room := { frames := 0, cells := 0, slots := 0, locals := 0 }
set_option maxRecDepth 100000 in
set_option maxHeartbeats 4000000 in
theorem s_X11_isInside (l : Launch) (D : va_G) (G : Nat → Nat) (b0 : Nat) (τ : Nat → Nat) (f : hM) (t : TI G 9 τ f) (u0 : Int32) (hu0 : iv u0 (-2147483648) 2147483647) (u1 : Int32) (hu1 : iv u1 (-2147483648) 2147483647) (u2 : Int32) (hu2 : iv u2 (-2147483648) 2147483647) : mI l yX11_isInside cX11_isInside 3 (.boolean) rm_s_X11_isInside D G b0 f [.int u0, .int u1, .int u2] (fun r f1 => iv r 0 1 ∧ TI G 9 τ f1 ∧ Fr [] τ f f1 ∧ (r.toInt ≠ 0 → (u0.toInt = 0 → 0 ≤ u1.toInt ∧ 0 ≤ u2.toInt))) := by
  refine met2 (own := RX11) (by decide) rfl (Nat.le_of_ble_eq_true rfl) ?_
  intro p e s m args below meth c ls Q hQ C hr hini hl h
  have hl : lv_has ls 3 [(0, .int u0), (1, .int u1), (2, .int u2)] := hl
  obtain ⟨hx, hb, hml, hown, hts, hE0, hlk⟩ := id C
  have o := Fr.rf [] τ f
  refine lv_iload_n hx hb dX11_isInside_0 rfl (lv_at hl 0 rfl) ?_
  rcases sw_0_3 u0 with c1 | c1 | c1 | c1 | c1
  · refine lv_tableIn (tgt := 32) hx hb dX11_isInside_1 (by rw [c1]; decide) (by rw [c1]; decide) (off := 31) (by rw [c1]; rfl) (by decide) ?_
    have i2 : iv u0 0 0 := by rw [c1]; exact iv_k rfl
    refine lv_iload_n hx hb dX11_isInside_32 rfl (lv_at hl 1 rfl) ?_
    refine lv_if_lt (tgt := 44) hx hb dX11_isInside_33 (by decide) (fun c6 => ?_) (fun c6 => ?_)
    · have c7 : u1.toInt < 0 := Int32.lt_iff_toInt_lt.mp c6
      have i8 : iv u1 (-2147483648) (-1) := iv_Ll c7 hu1 (iv_k (x := 0) (k := 0) rfl) (by decide)
      refine lv_iconst (v := 0) hx hb dX11_isInside_44 (by decide) ?_
      exact u_zret C h hr hQ ⟨by decide, by decide⟩ (⟨⟨by decide, by decide⟩, t, o, (fun h_ => absurd h_ (by decide))⟩) (Nat.le_of_ble_eq_true rfl) (Nat.le_of_ble_eq_true rfl) dX11_isInside_45
    · have c9 : 0 ≤ u1.toInt := Int32.le_iff_toInt_le.mp (iv_nlt c6)
      have i10 : iv u1 0 2147483647 := iv_Er c9 (iv_k (x := 0) (k := 0) rfl) hu1 (by decide)
      refine lv_iload_n hx hb dX11_isInside_36 rfl (lv_at hl 2 rfl) ?_
      refine lv_if_lt (tgt := 44) hx hb dX11_isInside_37 (by decide) (fun c11 => ?_) (fun c11 => ?_)
      · have c12 : u2.toInt < 0 := Int32.lt_iff_toInt_lt.mp c11
        have i13 : iv u2 (-2147483648) (-1) := iv_Ll c12 hu2 (iv_k (x := 0) (k := 0) rfl) (by decide)
        refine lv_iconst (v := 0) hx hb dX11_isInside_44 (by decide) ?_
        exact u_zret C h hr hQ ⟨by decide, by decide⟩ (⟨⟨by decide, by decide⟩, t, o, (fun h_ => absurd h_ (by decide))⟩) (Nat.le_of_ble_eq_true rfl) (Nat.le_of_ble_eq_true rfl) dX11_isInside_45
      · have c14 : 0 ≤ u2.toInt := Int32.le_iff_toInt_le.mp (iv_nlt c11)
        have i15 : iv u2 0 2147483647 := iv_Er c14 (iv_k (x := 0) (k := 0) rfl) hu2 (by decide)
        refine lv_iconst (v := 1) hx hb dX11_isInside_40 (by decide) ?_
        refine lv_goto (tgt := 45) hx hb dX11_isInside_41 (by decide) ?_
        exact u_zret C h hr hQ ⟨by decide, by decide⟩ (⟨⟨by decide, by decide⟩, t, o, (fun _ => (by omega))⟩) (Nat.le_of_ble_eq_true rfl) (Nat.le_of_ble_eq_true rfl) dX11_isInside_45
  · refine lv_tableIn (tgt := 46) hx hb dX11_isInside_1 (by rw [c1]; decide) (by rw [c1]; decide) (off := 45) (by rw [c1]; rfl) (by decide) ?_
    have i3 : iv u0 1 1 := by rw [c1]; exact iv_k rfl
    refine lv_iload_n hx hb dX11_isInside_46 rfl (lv_at hl 2 rfl) ?_
    refine lv_if_lt (tgt := 54) hx hb dX11_isInside_47 (by decide) (fun c16 => ?_) (fun c16 => ?_)
    · have c17 : u2.toInt < 0 := Int32.lt_iff_toInt_lt.mp c16
      have i18 : iv u2 (-2147483648) (-1) := iv_Ll c17 hu2 (iv_k (x := 0) (k := 0) rfl) (by decide)
      refine lv_iconst (v := 0) hx hb dX11_isInside_54 (by decide) ?_
      exact u_zret C h hr hQ ⟨by decide, by decide⟩ (⟨⟨by decide, by decide⟩, t, o, (fun h_ => absurd h_ (by decide))⟩) (Nat.le_of_ble_eq_true rfl) (Nat.le_of_ble_eq_true rfl) dX11_isInside_55
    · have c19 : 0 ≤ u2.toInt := Int32.le_iff_toInt_le.mp (iv_nlt c16)
      have i20 : iv u2 0 2147483647 := iv_Er c19 (iv_k (x := 0) (k := 0) rfl) hu2 (by decide)
      refine lv_iconst (v := 1) hx hb dX11_isInside_50 (by decide) ?_
      refine lv_goto (tgt := 55) hx hb dX11_isInside_51 (by decide) ?_
      exact u_zret C h hr hQ ⟨by decide, by decide⟩ (⟨⟨by decide, by decide⟩, t, o, (fun _ => (by omega))⟩) (Nat.le_of_ble_eq_true rfl) (Nat.le_of_ble_eq_true rfl) dX11_isInside_55
  · refine lv_tableIn (tgt := 66) hx hb dX11_isInside_1 (by rw [c1]; decide) (by rw [c1]; decide) (off := 65) (by rw [c1]; rfl) (by decide) ?_
    have i4 : iv u0 2 2 := by rw [c1]; exact iv_k rfl
    refine lv_iconst (v := 1) hx hb dX11_isInside_66 (by decide) ?_
    exact u_zret C h hr hQ ⟨by decide, by decide⟩ (⟨⟨by decide, by decide⟩, t, o, (fun _ => (by omega))⟩) (Nat.le_of_ble_eq_true rfl) (Nat.le_of_ble_eq_true rfl) dX11_isInside_67
  · refine lv_tableIn (tgt := 56) hx hb dX11_isInside_1 (by rw [c1]; decide) (by rw [c1]; decide) (off := 55) (by rw [c1]; rfl) (by decide) ?_
    have i5 : iv u0 3 3 := by rw [c1]; exact iv_k rfl
    refine lv_iload_n hx hb dX11_isInside_56 rfl (lv_at hl 1 rfl) ?_
    refine lv_if_lt (tgt := 64) hx hb dX11_isInside_57 (by decide) (fun c21 => ?_) (fun c21 => ?_)
    · have c22 : u1.toInt < 0 := Int32.lt_iff_toInt_lt.mp c21
      have i23 : iv u1 (-2147483648) (-1) := iv_Ll c22 hu1 (iv_k (x := 0) (k := 0) rfl) (by decide)
      refine lv_iconst (v := 0) hx hb dX11_isInside_64 (by decide) ?_
      exact u_zret C h hr hQ ⟨by decide, by decide⟩ (⟨⟨by decide, by decide⟩, t, o, (fun h_ => absurd h_ (by decide))⟩) (Nat.le_of_ble_eq_true rfl) (Nat.le_of_ble_eq_true rfl) dX11_isInside_65
    · have c24 : 0 ≤ u1.toInt := Int32.le_iff_toInt_le.mp (iv_nlt c21)
      have i25 : iv u1 0 2147483647 := iv_Er c24 (iv_k (x := 0) (k := 0) rfl) hu1 (by decide)
      refine lv_iconst (v := 1) hx hb dX11_isInside_60 (by decide) ?_
      refine lv_goto (tgt := 65) hx hb dX11_isInside_61 (by decide) ?_
      exact u_zret C h hr hQ ⟨by decide, by decide⟩ (⟨⟨by decide, by decide⟩, t, o, (fun _ => (by omega))⟩) (Nat.le_of_ble_eq_true rfl) (Nat.le_of_ble_eq_true rfl) dX11_isInside_65
  · refine lv_tableOut (tgt := 66) hx hb dX11_isInside_1 c1 (by decide) ?_
    refine lv_iconst (v := 1) hx hb dX11_isInside_66 (by decide) ?_
    exact u_zret C h hr hQ ⟨by decide, by decide⟩ (⟨⟨by decide, by decide⟩, t, o, (fun _ => (by omega))⟩) (Nat.le_of_ble_eq_true rfl) (Nat.le_of_ble_eq_true rfl) dX11_isInside_67
abbrev rm_s_X11_begins : Room := { frames := 1, cells := 0, slots := 0, locals := 22 }
set_option maxRecDepth 100000 in
set_option maxHeartbeats 4000000 in
theorem s_X11_begins (l : Launch) (D : va_G) (G : Nat → Nat) (b0 : Nat) (τ : Nat → Nat) (f : hM) (t : TI G 9 τ f) (u0 : Nat) (hu0 : τ u0 = 60) (u1 : Int32) (hu1 : iv u1 0 7) : mV l yX11_begins cX11_begins 3 rm_s_X11_begins D G b0 f [.ref u0, .int u1] (fun f1 => TI G 9 τ f1 ∧ Fr [60, 67, 60015] τ f f1 ∧ (∃ gg : Int32, atp f1 u0 (fd 14 (.int gg)) ∧ iv gg 0 0 ∧ gg.toInt = 0)) := by
  refine met2 (own := RX11) (by decide) rfl (Nat.le_of_ble_eq_true rfl) ?_
  intro p e s m args below meth c ls Q hQ C hr hini hl h
  have hl : lv_has ls 3 [(0, .ref u0), (1, .int u1)] := hl
  obtain ⟨hx, hb, hml, hown, hts, hE0, hlk⟩ := id C
  have o := Fr.rf [60, 67, 60015] τ f
  have L2 : ∀ (n2 : Nat) (ls : Array Slot) (f_2 : hM) (H : Heap) (locs : List Loc) (v2_2 : Int32), 19600 - v2_2.toInt < (n2 : Int) → lv_has ls 3 [(0, .ref u0), (1, .int u1), (2, .int v2_2)] → hw D b0 s.heap f_2 H locs → TI G 9 τ f_2 → Fr [60, 67, 60015] τ f f_2 → iv v2_2 0 19600 → W p l e rm_s_X11_begins s m args below meth c H locs 0 0 Q (F0 m 2 ls []) := by
    intro n2
    induction n2 with
    | zero => intro ls f_2 H locs v2_2 hm2 hl h t_2 o_2 iv2_2; exact absurd hm2 (by omega)
    | succ n2 ih2 =>
      intro ls f_2 H locs v2_2 hm2 hl h t_2 o_2 iv2_2
      refine lv_iload_n hx hb dX11_begins_2 rfl (lv_at hl 2 rfl) ?_
      refine lv_sipush (v := 19600) hx hb dX11_begins_3 (by decide) ?_
      refine lv_icmp_ge (tgt := 22) hx hb dX11_begins_6 (by decide) (fun c1 => ?_) (fun c1 => ?_)
      · have c2 : 19600 ≤ v2_2.toInt := Int32.le_iff_toInt_le.mp c1
        have i3 : iv v2_2 19600 19600 := iv_Er c2 (iv_k (x := 19600) (k := 19600) rfl) iv2_2 (by decide)
        refine lv_aload_n hx hb dX11_begins_22 rfl (lv_at hl 0 rfl) ?_
        refine t_getr (tq := 67) C h t_2 hu0 (by decide) wf_60 rfl fl_X11_29 dX11_begins_23 (fun q6 tq6 => ?_)
        refine lv_aload_n hx hb dX11_begins_26 rfl (lv_at hl 0 rfl) ?_
        refine lv_iload_n hx hb dX11_begins_27 rfl (lv_at hl 1 rfl) ?_
        refine lv_bipush (v := 8) hx hb dX11_begins_28 (by decide) ?_
        obtain ⟨_, r7⟩ := t_rec t_2 hu0 (by decide) wf_60
        refine k_i (r_V C h hl (As := [.int u1, .int 8]) (rest := [.ref q6]) (s_X11_weightOf l D G b0 τ f_2 t_2 u0 hu0 u1 hu1 8 (iv_w (iv_k (x := 8) (k := 8) rfl) (by decide))) r7 (Cn := RX11) (T := TX11) (N := 32) rfl rfl mk_X11_weightOf w_1631 w_1633 w_52 w_1634 ⟨Nat.le_of_ble_eq_true rfl, Nat.le_of_ble_eq_true rfl⟩ rfl (Nat.le_of_ble_eq_true rfl) ⟨Nat.le_of_ble_eq_true rfl, Nat.le_of_ble_eq_true rfl⟩ rfl dX11_begins_30) h (fun r8 f9 H locs p10 h => ?_)
        obtain ⟨ir8, tf9, ogf9⟩ := p10
        have egf9 := Fr.nil2 ogf9
        subst egf9
        refine lv_aload_n hx hb dX11_begins_33 rfl (lv_at hl 0 rfl) ?_
        refine lv_iload_n hx hb dX11_begins_34 rfl (lv_at hl 1 rfl) ?_
        refine lv_bipush (v := 9) hx hb dX11_begins_35 (by decide) ?_
        obtain ⟨_, r11⟩ := t_rec t_2 hu0 (by decide) wf_60
        refine k_i (r_V C h hl (As := [.int u1, .int 9]) (rest := [.int r8, .ref q6]) (s_X11_weightOf l D G b0 τ f_2 t_2 u0 hu0 u1 hu1 9 (iv_w (iv_k (x := 9) (k := 9) rfl) (by decide))) r11 (Cn := RX11) (T := TX11) (N := 32) rfl rfl mk_X11_weightOf w_1631 w_1633 w_52 w_1634 ⟨Nat.le_of_ble_eq_true rfl, Nat.le_of_ble_eq_true rfl⟩ rfl (Nat.le_of_ble_eq_true rfl) ⟨Nat.le_of_ble_eq_true rfl, Nat.le_of_ble_eq_true rfl⟩ rfl dX11_begins_37) h (fun r12 f13 H locs p14 h => ?_)
        obtain ⟨ir12, tf13, ogf13⟩ := p14
        have egf13 := Fr.nil2 ogf13
        subst egf13
        refine k_i (r_S C h hl (As := [.int r8, .int r12]) (rest := [.ref q6]) (s_X11_cell l D G b0 τ f_2 t_2 r8 (iv_w ir8 (by decide)) r12 (iv_w ir12 (by decide))) mk_X11_cell w_1706 w_1707 w_1708 ⟨Nat.le_of_ble_eq_true rfl, Nat.le_of_ble_eq_true rfl⟩ rfl (Nat.le_of_ble_eq_true rfl) ⟨Nat.le_of_ble_eq_true rfl, Nat.le_of_ble_eq_true rfl⟩ rfl dX11_begins_40) h (fun r15 f16 H locs p17 h => ?_)
        obtain ⟨ir15, tf16, ogf16, x0r15⟩ := p17
        have egf16 := Fr.nil2 ogf16
        subst egf16
        refine lv_lconst (v := 1) hx hb dX11_begins_43 (by decide) ?_
        refine t_last C h t_2 o_2 tq6 (by decide) (by decide) wf_67 fw_67 (iv_in ir15 (by decide)) dX11_begins_44 (fun f18 H locs h tf18 of18 hq => ?_)
        refine lv_aload_n hx hb dX11_begins_45 rfl (lv_at hl 0 rfl) ?_
        refine lv_iconst (v := 0) hx hb dX11_begins_46 (by decide) ?_
        refine t_put C h tf18 of18 hu0 (by decide) (by decide) (by decide) wf_60 fw_60 (k := 14) rfl flw_X11_209 (Or.inr ⟨_, _, _, rfl, rfl⟩) (v := .int 0) rfl rfl ⟨_, rfl, ⟨by decide, by decide⟩⟩ dX11_begins_47 (fun f19 H locs h tf19 of19 hq ha_ hn_ hk_ => ?_)
        have k20 := ha_
        exact u_vret C h hr hQ (⟨tf19, of19, ⟨0, k20, ⟨by decide, by decide⟩, (by decide)⟩⟩) (Nat.le_of_ble_eq_true rfl) (Nat.le_of_ble_eq_true rfl) dX11_begins_50
      · have c4 : v2_2.toInt < 19600 := Int32.lt_iff_toInt_lt.mp (iv_nle c1)
        have i5 : iv v2_2 0 19599 := iv_Ll c4 iv2_2 (iv_k (x := 19600) (k := 19600) rfl) (by decide)
        refine lv_aload_n hx hb dX11_begins_9 rfl (lv_at hl 0 rfl) ?_
        refine t_getr (tq := 67) C h t_2 hu0 (by decide) wf_60 rfl fl_X11_29 dX11_begins_10 (fun q21 tq21 => ?_)
        refine lv_iload_n hx hb dX11_begins_13 rfl (lv_at hl 2 rfl) ?_
        refine lv_lconst (v := 0) hx hb dX11_begins_14 (by decide) ?_
        refine t_last C h t_2 o_2 tq21 (by decide) (by decide) wf_67 fw_67 (iv_in i5 (by decide)) dX11_begins_15 (fun f22 H locs h tf22 of22 hq => ?_)
        refine i_inc hx hb dX11_begins_16 hl (k := 2) rfl i5 rfl (lo := 1) (hi := 19600) (by decide) (by decide) (lv' := fun v => [(2, .int v), (0, .ref u0), (1, .int u1)]) (fun _ => rfl) (fun z23 ls ez23 mz23 iz23 hl => ?_)
        refine lv_goto (tgt := 2) hx hb dX11_begins_19 (by decide) ?_
        exact ih2 ls f22 H locs z23 (show 19600 - z23.toInt < _ by omega) (lv_cons hl 1 rfl (lv_cons hl 2 rfl (lv_cons hl 0 rfl (lv_nil hl)))) h tf22 of22 (iv_w iz23 (by decide))
  refine lv_iconst (v := 0) hx hb dX11_begins_0 (by decide) ?_
  refine lv_istore_n (lv' := [(2, .int 0), (0, .ref u0), (1, .int u1)]) hx hb dX11_begins_1 rfl hl (by decide) rfl (fun ls hl => ?_)
  exact L2 19601 ls f s.heap [] 0 (by decide) (lv_cons hl 1 rfl (lv_cons hl 2 rfl (lv_cons hl 0 rfl (lv_nil hl)))) h t o ⟨by decide, by decide⟩
abbrev rm_s_X11_with : Room := { frames := 0, cells := 0, slots := 0, locals := 0 }
set_option maxRecDepth 100000 in
set_option maxHeartbeats 4000000 in
theorem s_X11_with (l : Launch) (D : va_G) (G : Nat → Nat) (b0 : Nat) (τ : Nat → Nat) (f : hM) (t : TI G 9 τ f) (u0 : Int64) (u1 : Int64) (u2 : Int32) (hu2 : iv u2 (-2147483648) 2147483647) (u3 : Int32) (hu3 : iv u3 (-2147483648) 2147483647) : mL l yX11_with cX11_with 6 rm_s_X11_with D G b0 f [.long u0, .long u1, .int u2, .int u3] (fun r f1 => TI G 9 τ f1 ∧ Fr [] τ f f1) := by
  refine met2 (own := RX11) (by decide) rfl (Nat.le_of_ble_eq_true rfl) ?_
  intro p e s m args below meth c ls Q hQ C hr hini hl h
  have hl : lv_has ls 6 [(0, .long u0), (2, .long u1), (4, .int u2), (5, .int u3)] := hl
  obtain ⟨hx, hb, hml, hown, hts, hE0, hlk⟩ := id C
  have o := Fr.rf [] τ f
  refine lv_iload hx hb dX11_with_0 (lv_at hl 3 rfl) ?_
  rcases sw_1_3 u3 with c1 | c1 | c1 | c1
  · refine lv_tableIn (tgt := 28) hx hb dX11_with_2 (by rw [c1]; decide) (by rw [c1]; decide) (off := 26) (by rw [c1]; rfl) (by decide) ?_
    have i2 : iv u3 1 1 := by rw [c1]; exact iv_k rfl
    refine lv_lload_n hx hb dX11_with_28 rfl (lv_at hl 0 rfl) ?_
    refine lv_lload_n hx hb dX11_with_29 rfl (lv_at hl 1 rfl) ?_
    refine lv_iload hx hb dX11_with_30 (lv_at hl 2 rfl) ?_
    refine lv_i2l hx hb dX11_with_32 rfl (i_topL hu2 (fun w5 ew5 mw5 iw5 => ?_))
    refine lv_lmul hx hb dX11_with_33 (lv_topl (fun w6 ew6 => ?_))
    refine lv_ladd hx hb dX11_with_34 (lv_topl (fun w7 ew7 => ?_))
    refine lv_ldc2 (v := 1000003) hx hb hown (hts _ w_1719) dX11_with_35 ?_
    refine lv_lrem hx hb dX11_with_38 (by decide) (i_topl (lrem_iv (k := 1000003) rfl (by decide) (lo := -1000002) (hi := 1000002) (by decide)) (fun w8 ew8 iw8 => ?_))
    exact u_lret C h hr hQ (⟨t, o⟩) (Nat.le_of_ble_eq_true rfl) (Nat.le_of_ble_eq_true rfl) dX11_with_39
  · refine lv_tableIn (tgt := 40) hx hb dX11_with_2 (by rw [c1]; decide) (by rw [c1]; decide) (off := 38) (by rw [c1]; rfl) (by decide) ?_
    have i3 : iv u3 2 2 := by rw [c1]; exact iv_k rfl
    refine lv_lload_n hx hb dX11_with_40 rfl (lv_at hl 0 rfl) ?_
    refine lv_lload_n hx hb dX11_with_41 rfl (lv_at hl 1 rfl) ?_
    refine lv_iload hx hb dX11_with_42 (lv_at hl 2 rfl) ?_
    refine lv_i2l hx hb dX11_with_44 rfl (i_topL hu2 (fun w9 ew9 mw9 iw9 => ?_))
    refine lv_lmul hx hb dX11_with_45 (lv_topl (fun w10 ew10 => ?_))
    refine lv_ladd hx hb dX11_with_46 (lv_topl (fun w11 ew11 => ?_))
    exact u_lret C h hr hQ (⟨t, o⟩) (Nat.le_of_ble_eq_true rfl) (Nat.le_of_ble_eq_true rfl) dX11_with_47
  · refine lv_tableIn (tgt := 48) hx hb dX11_with_2 (by rw [c1]; decide) (by rw [c1]; decide) (off := 46) (by rw [c1]; rfl) (by decide) ?_
    have i4 : iv u3 3 3 := by rw [c1]; exact iv_k rfl
    refine lv_lload_n hx hb dX11_with_48 rfl (lv_at hl 0 rfl) ?_
    refine lv_lload_n hx hb dX11_with_49 rfl (lv_at hl 1 rfl) ?_
    refine lv_ladd hx hb dX11_with_50 (lv_topl (fun w12 ew12 => ?_))
    exact u_lret C h hr hQ (⟨t, o⟩) (Nat.le_of_ble_eq_true rfl) (Nat.le_of_ble_eq_true rfl) dX11_with_51
  · refine lv_tableOut (tgt := 52) hx hb dX11_with_2 c1 (by decide) ?_
    refine lv_lconst (v := 1) hx hb dX11_with_52 (by decide) ?_
    exact u_lret C h hr hQ (⟨t, o⟩) (Nat.le_of_ble_eq_true rfl) (Nat.le_of_ble_eq_true rfl) dX11_with_53
abbrev rm_s_X11_goes : Room := { frames := 1, cells := 0, slots := 0, locals := 25 }
set_option maxRecDepth 100000 in
set_option maxHeartbeats 4000000 in
theorem s_X11_goes (l : Launch) (D : va_G) (G : Nat → Nat) (b0 : Nat) (τ : Nat → Nat) (f : hM) (t : TI G 9 τ f) (u0 : Nat) (hu0 : τ u0 = 60) (u1 : Int32) (hu1 : iv u1 0 7) (u2 : Int32) (hu2 : iv u2 (-2147483648) 2147483647) (u3 : Int32) (hu3 : iv u3 (-2147483648) 2147483647) (gn : Int32) (hgn : iv gn 0 59) (k_u0_14 : atp f u0 (fd 14 (.int gn))) (hNG : NGs τ f u0) : mV l yX11_goes cX11_goes 14 rm_s_X11_goes D G b0 f [.ref u0, .int u1, .int u2, .int u3] (fun f1 => TI G 9 τ f1 ∧ Fr [60, 67, 60013, 60014, 60015] τ f f1 ∧ (∃ gg : Int32, atp f1 u0 (fd 14 (.int gg)) ∧ iv gg 1 60 ∧ gg.toInt = gn.toInt + 1) ∧ NGs τ f1 u0) := by
  refine met2 (own := RX11) (by decide) rfl (Nat.le_of_ble_eq_true rfl) ?_
  intro p e s m args below meth c ls Q hQ C hr hini hl h
  have hl : lv_has ls 14 [(0, .ref u0), (1, .int u1), (2, .int u2), (3, .int u3)] := hl
  obtain ⟨hx, hb, hml, hown, hts, hE0, hlk⟩ := id C
  have o := Fr.rf [60, 67, 60013, 60014, 60015] τ f
  obtain ⟨ga, gb, hab, ⟨hga, hgb⟩, k_u0_12, k_u0_13⟩ := hNG
  have L3 : ∀ (n3 : Nat) (ls : Array Slot) (f_3 : hM) (H : Heap) (locs : List Loc) (v3_4 : Int32), 19600 - v3_4.toInt < (n3 : Int) → lv_has ls 14 [(0, .ref u0), (1, .int u1), (2, .int u2), (3, .int u3), (4, .int v3_4)] → hw D b0 s.heap f_3 H locs → TI G 9 τ f_3 → Fr [60, 67, 60013, 60014, 60015] τ f f_3 → iv v3_4 0 19600 → atp f_3 u0 (fd 14 (.int gn)) → atp f_3 u0 (fd 12 (.ref ga)) → atp f_3 u0 (fd 13 (.ref gb)) → W p l e rm_s_X11_goes s m args below meth c H locs 0 0 Q (F0 m 3 ls []) := by
    intro n3
    induction n3 with
    | zero => intro ls f_3 H locs v3_4 hm3 hl h t_3 o_3 iv3_4 k3_u0_14 k3_u0_12 k3_u0_13; exact absurd hm3 (by omega)
    | succ n3 ih3 =>
      intro ls f_3 H locs v3_4 hm3 hl h t_3 o_3 iv3_4 k3_u0_14 k3_u0_12 k3_u0_13
      have L52 : ∀ (n52 : Nat) (ls : Array Slot) (f_52 : hM) (H : Heap) (locs : List Loc) (v52_4 : Int32) (v52_5 : Int32) (v52_6 : Int32), 69 - v52_6.toInt < (n52 : Int) → lv_has ls 14 [(0, .ref u0), (1, .int u1), (2, .int u2), (3, .int u3), (4, .int v52_4), (5, .int v52_5), (6, .int v52_6)] → hw D b0 s.heap f_52 H locs → TI G 9 τ f_52 → Fr [60, 67, 60013, 60014, 60015] τ f f_52 → iv v52_4 0 9 → iv v52_5 0 9 → iv v52_6 (-59) 69 → atp f_52 u0 (fd 14 (.int gn)) → atp f_52 u0 (fd 12 (.ref ga)) → atp f_52 u0 (fd 13 (.ref gb)) → W p l e rm_s_X11_goes s m args below meth c H locs 0 0 Q (F0 m 52 ls []) := by
        intro n52
        induction n52 with
        | zero => intro ls f_52 H locs v52_4 v52_5 v52_6 hm52 hl h t_52 o_52 iv52_4 iv52_5 iv52_6 k52_u0_14 k52_u0_12 k52_u0_13; exact absurd hm52 (by omega)
        | succ n52 ih52 =>
          intro ls f_52 H locs v52_4 v52_5 v52_6 hm52 hl h t_52 o_52 iv52_4 iv52_5 iv52_6 k52_u0_14 k52_u0_12 k52_u0_13
          have L73 : ∀ (n73 : Nat) (ls : Array Slot) (f_73 : hM) (H : Heap) (locs : List Loc) (v73_7 : Int32), 69 - v73_7.toInt < (n73 : Int) → lv_has ls 14 [(0, .ref u0), (1, .int u1), (2, .int u2), (3, .int u3), (4, .int v52_4), (5, .int v52_5), (6, .int v52_6), (7, .int v73_7)] → hw D b0 s.heap f_73 H locs → TI G 9 τ f_73 → Fr [60, 67, 60013, 60014, 60015] τ f f_73 → iv v52_6 (-59) 68 → iv v73_7 (-59) 69 → atp f_73 u0 (fd 14 (.int gn)) → atp f_73 u0 (fd 12 (.ref ga)) → atp f_73 u0 (fd 13 (.ref gb)) → W p l e rm_s_X11_goes s m args below meth c H locs 0 0 Q (F0 m 73 ls []) := by
            intro n73
            induction n73 with
            | zero => intro ls f_73 H locs v73_7 hm73 hl h t_73 o_73 jv73_6 iv73_7 k73_u0_14 k73_u0_12 k73_u0_13; exact absurd hm73 (by omega)
            | succ n73 ih73 =>
              intro ls f_73 H locs v73_7 hm73 hl h t_73 o_73 jv73_6 iv73_7 k73_u0_14 k73_u0_12 k73_u0_13
              have L112 : ∀ (n112 : Nat) (ls : Array Slot) (f_112 : hM) (H : Heap) (locs : List Loc) (v112_8 : Int64) (v112_10 : Int32), 8 - v112_10.toInt < (n112 : Int) → lv_has ls 14 [(0, .ref u0), (1, .int u1), (2, .int u2), (3, .int u3), (4, .int v52_4), (5, .int v52_5), (6, .int v52_6), (7, .int v73_7), (8, .long v112_8), (10, .int v112_10)] → hw D b0 s.heap f_112 H locs → TI G 9 τ f_112 → Fr [60, 67, 60013, 60014, 60015] τ f f_112 → iv v73_7 (-59) 68 → iv v112_10 0 8 → atp f_112 u0 (fd 14 (.int gn)) → atp f_112 u0 (fd 12 (.ref ga)) → atp f_112 u0 (fd 13 (.ref gb)) → W p l e rm_s_X11_goes s m args below meth c H locs 0 0 Q (F0 m 112 ls []) := by
                intro n112
                induction n112 with
                | zero => intro ls f_112 H locs v112_8 v112_10 hm112 hl h t_112 o_112 jv112_7 iv112_10 k112_u0_14 k112_u0_12 k112_u0_13; exact absurd hm112 (by omega)
                | succ n112 ih112 =>
                  intro ls f_112 H locs v112_8 v112_10 hm112 hl h t_112 o_112 jv112_7 iv112_10 k112_u0_14 k112_u0_12 k112_u0_13
                  refine lv_iload hx hb dX11_goes_112 (lv_at hl 9 rfl) ?_
                  refine lv_bipush (v := 8) hx hb dX11_goes_114 (by decide) ?_
                  refine lv_icmp_ge (tgt := 202) hx hb dX11_goes_116 (by decide) (fun c1 => ?_) (fun c1 => ?_)
                  · have c2 : 8 ≤ v112_10.toInt := Int32.le_iff_toInt_le.mp c1
                    have i3 : iv v112_10 8 8 := iv_Er c2 (iv_k (x := 8) (k := 8) rfl) iv112_10 (by decide)
                    refine i_inc hx hb dX11_goes_202 hl (k := 7) rfl jv112_7 rfl (lo := (-58)) (hi := 69) (by decide) (by decide) (lv' := fun v => [(7, .int v), (0, .ref u0), (1, .int u1), (2, .int u2), (3, .int u3), (4, .int v52_4), (5, .int v52_5), (6, .int v52_6), (8, .long v112_8), (10, .int v112_10)]) (fun _ => rfl) (fun z6 ls ez6 mz6 iz6 hl => ?_)
                    refine lv_goto (tgt := 73) hx hb dX11_goes_205 (by decide) ?_
                    exact ih73 ls f_112 H locs z6 (show 69 - z6.toInt < _ by omega) (lv_cons hl 1 rfl (lv_cons hl 2 rfl (lv_cons hl 3 rfl (lv_cons hl 4 rfl (lv_cons hl 5 rfl (lv_cons hl 6 rfl (lv_cons hl 7 rfl (lv_cons hl 0 rfl (lv_nil hl))))))))) h t_112 o_112 jv73_6 (iv_w iz6 (by decide)) k112_u0_14 k112_u0_12 k112_u0_13
                  · have c4 : v112_10.toInt < 8 := Int32.lt_iff_toInt_lt.mp (iv_nle c1)
                    have i5 : iv v112_10 0 7 := iv_Ll c4 iv112_10 (iv_k (x := 8) (k := 8) rfl) (by decide)
                    refine lv_aload_n hx hb dX11_goes_119 rfl (lv_at hl 0 rfl) ?_
                    refine lv_iload_n hx hb dX11_goes_120 rfl (lv_at hl 1 rfl) ?_
                    refine lv_iload hx hb dX11_goes_121 (lv_at hl 9 rfl) ?_
                    obtain ⟨_, r7⟩ := t_rec t_112 hu0 (by decide) wf_60
                    refine k_i (r_V C h hl (As := [.int u1, .int v112_10]) (rest := []) (s_X11_weightOf l D G b0 τ f_112 t_112 u0 hu0 u1 hu1 v112_10 (iv_w i5 (by decide))) r7 (Cn := RX11) (T := TX11) (N := 32) rfl rfl mk_X11_weightOf w_1631 w_1633 w_52 w_1634 ⟨Nat.le_of_ble_eq_true rfl, Nat.le_of_ble_eq_true rfl⟩ rfl (Nat.le_of_ble_eq_true rfl) ⟨Nat.le_of_ble_eq_true rfl, Nat.le_of_ble_eq_true rfl⟩ rfl dX11_goes_123) h (fun r8 f9 H locs p10 h => ?_)
                    obtain ⟨ir8, tf9, ogf9⟩ := p10
                    have egf9 := Fr.nil2 ogf9
                    subst egf9
                    refine lv_istore (lv' := [(11, .int r8), (0, .ref u0), (1, .int u1), (2, .int u2), (3, .int u3), (4, .int v52_4), (5, .int v52_5), (6, .int v52_6), (7, .int v73_7), (8, .long v112_8), (10, .int v112_10)]) hx hb dX11_goes_126 hl (by decide) rfl (fun ls hl => ?_)
                    refine lv_iload hx hb dX11_goes_128 (lv_at hl 7 rfl) ?_
                    refine lv_iload hx hb dX11_goes_130 (lv_at hl 10 rfl) ?_
                    refine k_i (r_S C h hl (As := [.int v112_10]) (rest := [.int v52_6]) (s_X11_dx l D G b0 τ f_112 t_112 v112_10 (iv_w i5 (by decide))) mk_X11_dx w_1675 w_1676 w_1677 ⟨Nat.le_of_ble_eq_true rfl, Nat.le_of_ble_eq_true rfl⟩ rfl (Nat.le_of_ble_eq_true rfl) ⟨Nat.le_of_ble_eq_true rfl, Nat.le_of_ble_eq_true rfl⟩ rfl dX11_goes_132) h (fun r11 f12 H locs p13 h => ?_)
                    obtain ⟨ir11, tf12, ogf12⟩ := p13
                    have egf12 := Fr.nil2 ogf12
                    subst egf12
                    refine i_add hx hb dX11_goes_135 jv73_6 ir11 (lo := (-60)) (hi := 69) (by decide) (fun z14 ez14 mz14 iz14 => ?_)
                    refine lv_istore (lv' := [(12, .int z14), (11, .int r8), (0, .ref u0), (1, .int u1), (2, .int u2), (3, .int u3), (4, .int v52_4), (5, .int v52_5), (6, .int v52_6), (7, .int v73_7), (8, .long v112_8), (10, .int v112_10)]) hx hb dX11_goes_136 hl (by decide) rfl (fun ls hl => ?_)
                    refine lv_iload hx hb dX11_goes_138 (lv_at hl 9 rfl) ?_
                    refine lv_iload hx hb dX11_goes_140 (lv_at hl 11 rfl) ?_
                    refine k_i (r_S C h hl (As := [.int v112_10]) (rest := [.int v73_7]) (s_X11_dy l D G b0 τ f_112 t_112 v112_10 (iv_w i5 (by decide))) mk_X11_dy w_1678 w_1679 w_1680 ⟨Nat.le_of_ble_eq_true rfl, Nat.le_of_ble_eq_true rfl⟩ rfl (Nat.le_of_ble_eq_true rfl) ⟨Nat.le_of_ble_eq_true rfl, Nat.le_of_ble_eq_true rfl⟩ rfl dX11_goes_142) h (fun r15 f16 H locs p17 h => ?_)
                    obtain ⟨ir15, tf16, ogf16⟩ := p17
                    have egf16 := Fr.nil2 ogf16
                    subst egf16
                    refine i_add hx hb dX11_goes_145 jv112_7 ir15 (lo := (-60)) (hi := 69) (by decide) (fun z18 ez18 mz18 iz18 => ?_)
                    refine lv_istore (lv' := [(13, .int z18), (12, .int z14), (11, .int r8), (0, .ref u0), (1, .int u1), (2, .int u2), (3, .int u3), (4, .int v52_4), (5, .int v52_5), (6, .int v52_6), (7, .int v73_7), (8, .long v112_8), (10, .int v112_10)]) hx hb dX11_goes_146 hl (by decide) rfl (fun ls hl => ?_)
                    refine lv_iload hx hb dX11_goes_148 (lv_at hl 2 rfl) ?_
                    refine lv_if_le (tgt := 196) hx hb dX11_goes_150 (by decide) (fun c19 => ?_) (fun c19 => ?_)
                    · have c20 : r8.toInt ≤ 0 := Int32.le_iff_toInt_le.mp c19
                      have i21 : iv r8 0 0 := iv_El c20 ir8 (iv_k (x := 0) (k := 0) rfl) (by decide)
                      refine i_inc hx hb dX11_goes_196 hl (k := 12) rfl i5 rfl (lo := 1) (hi := 8) (by decide) (by decide) (lv' := fun v => [(10, .int v), (13, .int z18), (12, .int z14), (11, .int r8), (0, .ref u0), (1, .int u1), (2, .int u2), (3, .int u3), (4, .int v52_4), (5, .int v52_5), (6, .int v52_6), (7, .int v73_7), (8, .long v112_8)]) (fun _ => rfl) (fun z24 ls ez24 mz24 iz24 hl => ?_)
                      refine lv_goto (tgt := 112) hx hb dX11_goes_199 (by decide) ?_
                      exact ih112 ls f_112 H locs v112_8 z24 (show 8 - z24.toInt < _ by omega) (lv_cons hl 4 rfl (lv_cons hl 5 rfl (lv_cons hl 6 rfl (lv_cons hl 7 rfl (lv_cons hl 8 rfl (lv_cons hl 9 rfl (lv_cons hl 10 rfl (lv_cons hl 11 rfl (lv_cons hl 12 rfl (lv_cons hl 0 rfl (lv_nil hl))))))))))) h t_112 o_112 jv112_7 (iv_w iz24 (by decide)) k112_u0_14 k112_u0_12 k112_u0_13
                    · have c22 : 0 < r8.toInt := Int32.lt_iff_toInt_lt.mp (iv_nle c19)
                      have i23 : iv r8 1 9 := iv_Lr c22 (iv_k (x := 0) (k := 0) rfl) ir8 (by decide)
                      refine lv_iload_n hx hb dX11_goes_153 rfl (lv_at hl 5 rfl) ?_
                      refine lv_iload hx hb dX11_goes_154 (lv_at hl 1 rfl) ?_
                      refine lv_iload hx hb dX11_goes_156 (lv_at hl 0 rfl) ?_
                      refine k_i (r_S C h hl (As := [.int u2, .int z14, .int z18]) (rest := []) (s_X11_isInside l D G b0 τ f_112 t_112 u2 hu2 z14 (iv_w iz14 (by decide)) z18 (iv_w iz18 (by decide))) mk_X11_isInside w_1713 w_1714 w_1715 ⟨Nat.le_of_ble_eq_true rfl, Nat.le_of_ble_eq_true rfl⟩ rfl (Nat.le_of_ble_eq_true rfl) ⟨Nat.le_of_ble_eq_true rfl, Nat.le_of_ble_eq_true rfl⟩ rfl dX11_goes_158) h (fun r25 f26 H locs p27 h => ?_)
                      obtain ⟨ir25, tf26, ogf26, cnr25⟩ := p27
                      have egf26 := Fr.nil2 ogf26
                      subst egf26
                      refine lv_if_eq (tgt := 196) hx hb dX11_goes_161 (by decide) (fun c28 => ?_) (fun c28 => ?_)
                      · have c29 : r25.toInt = 0 := congrArg Int32.toInt c28
                        have i30 : iv r25 0 0 := iv_Q c29 ir25 (iv_k (x := 0) (k := 0) rfl) (by decide)
                        refine i_inc hx hb dX11_goes_196 hl (k := 12) rfl i5 rfl (lo := 1) (hi := 8) (by decide) (by decide) (lv' := fun v => [(10, .int v), (13, .int z18), (12, .int z14), (11, .int r8), (0, .ref u0), (1, .int u1), (2, .int u2), (3, .int u3), (4, .int v52_4), (5, .int v52_5), (6, .int v52_6), (7, .int v73_7), (8, .long v112_8)]) (fun _ => rfl) (fun z34 ls ez34 mz34 iz34 hl => ?_)
                        refine lv_goto (tgt := 112) hx hb dX11_goes_199 (by decide) ?_
                        exact ih112 ls f_112 H locs v112_8 z34 (show 8 - z34.toInt < _ by omega) (lv_cons hl 4 rfl (lv_cons hl 5 rfl (lv_cons hl 6 rfl (lv_cons hl 7 rfl (lv_cons hl 8 rfl (lv_cons hl 9 rfl (lv_cons hl 10 rfl (lv_cons hl 11 rfl (lv_cons hl 12 rfl (lv_cons hl 0 rfl (lv_nil hl))))))))))) h t_112 o_112 jv112_7 (iv_w iz34 (by decide)) k112_u0_14 k112_u0_12 k112_u0_13
                      · have c31 : r25.toInt ≠ 0 := fun z_ => c28 (Int32.toInt_inj.mp z_)
                        have i32 : iv r25 1 1 := iv_Nl c31 ir25 (by decide)
                        have i33 := cnr25 c31
                        refine lv_aload_n hx hb dX11_goes_164 rfl (lv_at hl 3 rfl) ?_
                        refine t_getfd C h t_112 hu0 (by decide) wf_60 (v := .ref gb) k112_u0_13 fl_X11_33 dX11_goes_165 ?_
                        refine lv_iload hx hb dX11_goes_168 (lv_at hl 1 rfl) ?_
                        refine lv_iload hx hb dX11_goes_170 (lv_at hl 0 rfl) ?_
                        refine k_i (r_S C h hl (As := [.int z14, .int z18]) (rest := [.ref gb]) (s_X11_cell l D G b0 τ f_112 t_112 z14 (iv_w iz14 (by decide)) z18 (iv_w iz18 (by decide))) mk_X11_cell w_1706 w_1707 w_1708 ⟨Nat.le_of_ble_eq_true rfl, Nat.le_of_ble_eq_true rfl⟩ rfl (Nat.le_of_ble_eq_true rfl) ⟨Nat.le_of_ble_eq_true rfl, Nat.le_of_ble_eq_true rfl⟩ rfl dX11_goes_172) h (fun r35 f36 H locs p37 h => ?_)
                        obtain ⟨ir35, tf36, ogf36, x0r35⟩ := p37
                        have egf36 := Fr.nil2 ogf36
                        subst egf36
                        refine lv_aload_n hx hb dX11_goes_175 rfl (lv_at hl 3 rfl) ?_
                        refine t_getfd C h t_112 hu0 (by decide) wf_60 (v := .ref gb) k112_u0_13 fl_X11_33 dX11_goes_176 ?_
                        refine lv_iload hx hb dX11_goes_179 (lv_at hl 1 rfl) ?_
                        refine lv_iload hx hb dX11_goes_181 (lv_at hl 0 rfl) ?_
                        refine k_i (r_S C h hl (As := [.int z14, .int z18]) (rest := [.ref gb, .int r35, .ref gb]) (s_X11_cell l D G b0 τ f_112 t_112 z14 (iv_w iz14 (by decide)) z18 (iv_w iz18 (by decide))) mk_X11_cell w_1706 w_1707 w_1708 ⟨Nat.le_of_ble_eq_true rfl, Nat.le_of_ble_eq_true rfl⟩ rfl (Nat.le_of_ble_eq_true rfl) ⟨Nat.le_of_ble_eq_true rfl, Nat.le_of_ble_eq_true rfl⟩ rfl dX11_goes_183) h (fun r38 f39 H locs p40 h => ?_)
                        obtain ⟨ir38, tf39, ogf39, x0r38⟩ := p40
                        have egf39 := Fr.nil2 ogf39
                        subst egf39
                        refine t_lald C h t_112 hgb (by decide) wf_67 (iv_in ir38 (by decide)) dX11_goes_186 (fun w41 => ?_)
                        refine lv_lload hx hb dX11_goes_187 (lv_at hl 11 rfl) ?_
                        refine lv_iload hx hb dX11_goes_189 (lv_at hl 2 rfl) ?_
                        refine lv_iload_n hx hb dX11_goes_191 rfl (lv_at hl 6 rfl) ?_
                        refine k_l (r_S C h hl (As := [.long w41, .long v112_8, .int r8, .int u3]) (rest := [.int r35, .ref gb]) (s_X11_with l D G b0 τ f_112 t_112 w41 v112_8 r8 (iv_w i23 (by decide)) u3 hu3) mk_X11_with w_1716 w_1717 w_1718 ⟨Nat.le_of_ble_eq_true rfl, Nat.le_of_ble_eq_true rfl⟩ rfl (Nat.le_of_ble_eq_true rfl) ⟨Nat.le_of_ble_eq_true rfl, Nat.le_of_ble_eq_true rfl⟩ rfl dX11_goes_192) h (fun r42 f43 H locs p44 h => ?_)
                        obtain ⟨tf43, ogf43⟩ := p44
                        have egf43 := Fr.nil2 ogf43
                        subst egf43
                        refine t_last C h t_112 o_112 hgb (by decide) (by decide) wf_67 fw_67 (iv_in ir35 (by decide)) dX11_goes_195 (fun f45 H locs h tf45 of45 hq => ?_)
                        have k46 := atp.tg k112_u0_14 hq hu0 (by decide)
                        have k47 := atp.tg k112_u0_12 hq hu0 (by decide)
                        have k48 := atp.tg k112_u0_13 hq hu0 (by decide)
                        refine i_inc hx hb dX11_goes_196 hl (k := 12) rfl i5 rfl (lo := 1) (hi := 8) (by decide) (by decide) (lv' := fun v => [(10, .int v), (13, .int z18), (12, .int z14), (11, .int r8), (0, .ref u0), (1, .int u1), (2, .int u2), (3, .int u3), (4, .int v52_4), (5, .int v52_5), (6, .int v52_6), (7, .int v73_7), (8, .long v112_8)]) (fun _ => rfl) (fun z49 ls ez49 mz49 iz49 hl => ?_)
                        refine lv_goto (tgt := 112) hx hb dX11_goes_199 (by decide) ?_
                        exact ih112 ls f45 H locs v112_8 z49 (show 8 - z49.toInt < _ by omega) (lv_cons hl 4 rfl (lv_cons hl 5 rfl (lv_cons hl 6 rfl (lv_cons hl 7 rfl (lv_cons hl 8 rfl (lv_cons hl 9 rfl (lv_cons hl 10 rfl (lv_cons hl 11 rfl (lv_cons hl 12 rfl (lv_cons hl 0 rfl (lv_nil hl))))))))))) h tf45 of45 jv112_7 (iv_w iz49 (by decide)) k46 k47 k48
              refine lv_iload hx hb dX11_goes_73 (lv_at hl 7 rfl) ?_
              refine lv_iload hx hb dX11_goes_75 (lv_at hl 5 rfl) ?_
              refine lv_aload_n hx hb dX11_goes_77 rfl (lv_at hl 0 rfl) ?_
              refine t_getfd C h t_73 hu0 (by decide) wf_60 (v := .int gn) k73_u0_14 fl_X11_209 dX11_goes_78 ?_
              refine i_add hx hb dX11_goes_81 iv52_5 hgn (lo := 0) (hi := 68) (by decide) (fun z50 ez50 mz50 iz50 => ?_)
              refine lv_icmp_gt (tgt := 208) hx hb dX11_goes_82 (by decide) (fun c51 => ?_) (fun c51 => ?_)
              · have c52 : z50.toInt < v73_7.toInt := Int32.lt_iff_toInt_lt.mp c51
                have i53 : iv v73_7 1 69 := iv_Lr c52 iz50 iv73_7 (by decide)
                refine i_inc hx hb dX11_goes_208 hl (k := 6) rfl jv73_6 rfl (lo := (-58)) (hi := 69) (by decide) (by decide) (lv' := fun v => [(6, .int v), (0, .ref u0), (1, .int u1), (2, .int u2), (3, .int u3), (4, .int v52_4), (5, .int v52_5), (7, .int v73_7)]) (fun _ => rfl) (fun z56 ls ez56 mz56 iz56 hl => ?_)
                refine lv_goto (tgt := 52) hx hb dX11_goes_211 (by decide) ?_
                exact ih52 ls f_73 H locs v52_4 v52_5 z56 (show 69 - z56.toInt < _ by omega) (lv_cons hl 1 rfl (lv_cons hl 2 rfl (lv_cons hl 3 rfl (lv_cons hl 4 rfl (lv_cons hl 5 rfl (lv_cons hl 6 rfl (lv_cons hl 0 rfl (lv_nil hl)))))))) h t_73 o_73 iv52_4 iv52_5 (iv_w iz56 (by decide)) k73_u0_14 k73_u0_12 k73_u0_13
              · have c54 : v73_7.toInt ≤ z50.toInt := Int32.le_iff_toInt_le.mp (iv_nlt c51)
                have i55 : iv v73_7 (-59) 68 := iv_El c54 iv73_7 iz50 (by decide)
                refine lv_aload_n hx hb dX11_goes_85 rfl (lv_at hl 0 rfl) ?_
                refine t_getfd C h t_73 hu0 (by decide) wf_60 (v := .ref ga) k73_u0_12 fl_X11_29 dX11_goes_86 ?_
                refine lv_iload hx hb dX11_goes_89 (lv_at hl 6 rfl) ?_
                refine lv_iload hx hb dX11_goes_91 (lv_at hl 7 rfl) ?_
                refine k_i (r_S C h hl (As := [.int v52_6, .int v73_7]) (rest := [.ref ga]) (s_X11_cell l D G b0 τ f_73 t_73 v52_6 (iv_w jv73_6 (by decide)) v73_7 (iv_w i55 (by decide))) mk_X11_cell w_1706 w_1707 w_1708 ⟨Nat.le_of_ble_eq_true rfl, Nat.le_of_ble_eq_true rfl⟩ rfl (Nat.le_of_ble_eq_true rfl) ⟨Nat.le_of_ble_eq_true rfl, Nat.le_of_ble_eq_true rfl⟩ rfl dX11_goes_93) h (fun r57 f58 H locs p59 h => ?_)
                obtain ⟨ir57, tf58, ogf58, x0r57⟩ := p59
                have egf58 := Fr.nil2 ogf58
                subst egf58
                refine t_lald C h t_73 hga (by decide) wf_67 (iv_in ir57 (by decide)) dX11_goes_96 (fun w60 => ?_)
                refine lv_lstore (lv' := [(8, .long w60), (0, .ref u0), (1, .int u1), (2, .int u2), (3, .int u3), (4, .int v52_4), (5, .int v52_5), (6, .int v52_6), (7, .int v73_7)]) hx hb dX11_goes_97 hl (by decide) rfl (fun ls hl => ?_)
                refine lv_lload hx hb dX11_goes_99 (lv_at hl 0 rfl) ?_
                refine lv_lconst (v := 0) hx hb dX11_goes_101 (by decide) ?_
                refine W.lcmp hx hb dX11_goes_102 (i_topc (fun z61 ez61 mz61 iz61 => ?_))
                refine lv_if_ne (tgt := 109) hx hb dX11_goes_103 (by decide) (fun c62 => ?_) (fun c62 => ?_)
                · have c63 : z61.toInt ≠ 0 := fun z_ => c62 (Int32.toInt_inj.mp z_)
                  refine lv_iconst (v := 0) hx hb dX11_goes_109 (by decide) ?_
                  refine lv_istore (lv' := [(10, .int 0), (8, .long w60), (0, .ref u0), (1, .int u1), (2, .int u2), (3, .int u3), (4, .int v52_4), (5, .int v52_5), (6, .int v52_6), (7, .int v73_7)]) hx hb dX11_goes_110 hl (by decide) rfl (fun ls hl => ?_)
                  exact L112 9 ls f_73 H locs w60 0 (by decide) (lv_cons hl 2 rfl (lv_cons hl 3 rfl (lv_cons hl 4 rfl (lv_cons hl 5 rfl (lv_cons hl 6 rfl (lv_cons hl 7 rfl (lv_cons hl 8 rfl (lv_cons hl 9 rfl (lv_cons hl 1 rfl (lv_cons hl 0 rfl (lv_nil hl))))))))))) h t_73 o_73 i55 ⟨by decide, by decide⟩ k73_u0_14 k73_u0_12 k73_u0_13
                · have c64 : z61.toInt = 0 := congrArg Int32.toInt c62
                  have i65 : iv z61 0 0 := iv_Q c64 iz61 (iv_k (x := 0) (k := 0) rfl) (by decide)
                  refine lv_goto (tgt := 202) hx hb dX11_goes_106 (by decide) ?_
                  refine i_inc hx hb dX11_goes_202 hl (k := 8) rfl i55 rfl (lo := (-58)) (hi := 69) (by decide) (by decide) (lv' := fun v => [(7, .int v), (8, .long w60), (0, .ref u0), (1, .int u1), (2, .int u2), (3, .int u3), (4, .int v52_4), (5, .int v52_5), (6, .int v52_6)]) (fun _ => rfl) (fun z66 ls ez66 mz66 iz66 hl => ?_)
                  refine lv_goto (tgt := 73) hx hb dX11_goes_205 (by decide) ?_
                  exact ih73 ls f_73 H locs z66 (show 69 - z66.toInt < _ by omega) (lv_cons hl 2 rfl (lv_cons hl 3 rfl (lv_cons hl 4 rfl (lv_cons hl 5 rfl (lv_cons hl 6 rfl (lv_cons hl 7 rfl (lv_cons hl 8 rfl (lv_cons hl 0 rfl (lv_nil hl))))))))) h t_73 o_73 jv73_6 (iv_w iz66 (by decide)) k73_u0_14 k73_u0_12 k73_u0_13
          refine lv_iload hx hb dX11_goes_52 (lv_at hl 6 rfl) ?_
          refine lv_iload hx hb dX11_goes_54 (lv_at hl 4 rfl) ?_
          refine lv_aload_n hx hb dX11_goes_56 rfl (lv_at hl 0 rfl) ?_
          refine t_getfd C h t_52 hu0 (by decide) wf_60 (v := .int gn) k52_u0_14 fl_X11_209 dX11_goes_57 ?_
          refine i_add hx hb dX11_goes_60 iv52_4 hgn (lo := 0) (hi := 68) (by decide) (fun z67 ez67 mz67 iz67 => ?_)
          refine lv_icmp_gt (tgt := 214) hx hb dX11_goes_61 (by decide) (fun c68 => ?_) (fun c68 => ?_)
          · have c69 : z67.toInt < v52_6.toInt := Int32.lt_iff_toInt_lt.mp c68
            have i70 : iv v52_6 1 69 := iv_Lr c69 iz67 iv52_6 (by decide)
            refine lv_aload_n hx hb dX11_goes_214 rfl (lv_at hl 0 rfl) ?_
            refine t_getfd C h t_52 hu0 (by decide) wf_60 (v := .ref ga) k52_u0_12 fl_X11_29 dX11_goes_215 ?_
            refine lv_astore (lv' := [(6, .ref ga), (0, .ref u0), (1, .int u1), (2, .int u2), (3, .int u3), (4, .int v52_4), (5, .int v52_5)]) hx hb dX11_goes_218 hl (by decide) rfl (fun ls hl => ?_)
            refine lv_aload_n hx hb dX11_goes_220 rfl (lv_at hl 1 rfl) ?_
            refine lv_aload_n hx hb dX11_goes_221 rfl (lv_at hl 1 rfl) ?_
            refine t_getfd C h t_52 hu0 (by decide) wf_60 (v := .ref gb) k52_u0_13 fl_X11_33 dX11_goes_222 ?_
            refine t_put C h t_52 o_52 hu0 (by decide) (by decide) (by decide) wf_60 fw_60 (k := 12) rfl flw_X11_29 (Or.inr ⟨_, _, _, rfl, rfl⟩) (v := .ref gb) rfl rfl ⟨_, rfl, hgb⟩ dX11_goes_225 (fun f73 H locs h tf73 of73 hq ha_ hn_ hk_ => ?_)
            have k74 := hk_ 14 _ (by decide) k52_u0_14
            have k76 := hk_ 13 _ (by decide) k52_u0_13
            have k77 := ha_
            refine lv_aload_n hx hb dX11_goes_228 rfl (lv_at hl 1 rfl) ?_
            refine lv_aload hx hb dX11_goes_229 (lv_at hl 0 rfl) ?_
            refine t_put C h tf73 of73 hu0 (by decide) (by decide) (by decide) wf_60 fw_60 (k := 13) rfl flw_X11_33 (Or.inr ⟨_, _, _, rfl, rfl⟩) (v := .ref ga) rfl rfl ⟨_, rfl, hga⟩ dX11_goes_231 (fun f78 H locs h tf78 of78 hq ha_ hn_ hk_ => ?_)
            have k79 := hk_ 14 _ (by decide) k74
            have k81 := hk_ 12 _ (by decide) k77
            have k82 := ha_
            refine lv_aload_n hx hb dX11_goes_234 rfl (lv_at hl 1 rfl) ?_
            refine lv_dup hx hb dX11_goes_235 rfl ?_
            refine t_getfd C h tf78 hu0 (by decide) wf_60 (v := .int gn) k79 fl_X11_209 dX11_goes_236 ?_
            refine lv_iconst (v := 1) hx hb dX11_goes_239 (by decide) ?_
            refine i_addk hx hb dX11_goes_240 hgn (k := 1) rfl (lo := 1) (hi := 60) (by decide) (fun z83 ez83 mz83 iz83 => ?_)
            refine t_put C h tf78 of78 hu0 (by decide) (by decide) (by decide) wf_60 fw_60 (k := 14) rfl flw_X11_209 (Or.inr ⟨_, _, _, rfl, rfl⟩) (v := .int z83) rfl rfl ⟨_, rfl, (iv_w iz83 (by decide))⟩ dX11_goes_241 (fun f84 H locs h tf84 of84 hq ha_ hn_ hk_ => ?_)
            have k86 := hk_ 12 _ (by decide) k81
            have k87 := hk_ 13 _ (by decide) k82
            have k88 := ha_
            exact u_vret C h hr hQ (⟨tf84, of84, ⟨z83, k88, iz83, (by omega)⟩, ⟨gb, ga, hab.symm, ⟨hgb, hga⟩, k86, k87⟩⟩) (Nat.le_of_ble_eq_true rfl) (Nat.le_of_ble_eq_true rfl) dX11_goes_244
          · have c71 : v52_6.toInt ≤ z67.toInt := Int32.le_iff_toInt_le.mp (iv_nlt c68)
            have i72 : iv v52_6 (-59) 68 := iv_El c71 iv52_6 iz67 (by decide)
            refine lv_iload hx hb dX11_goes_64 (lv_at hl 5 rfl) ?_
            refine lv_aload_n hx hb dX11_goes_66 rfl (lv_at hl 0 rfl) ?_
            refine t_getfd C h t_52 hu0 (by decide) wf_60 (v := .int gn) k52_u0_14 fl_X11_209 dX11_goes_67 ?_
            refine i_sub hx hb dX11_goes_70 iv52_5 hgn (lo := (-59)) (hi := 9) (by decide) (fun z89 ez89 mz89 iz89 => ?_)
            refine lv_istore (lv' := [(7, .int z89), (0, .ref u0), (1, .int u1), (2, .int u2), (3, .int u3), (4, .int v52_4), (5, .int v52_5), (6, .int v52_6)]) hx hb dX11_goes_71 hl (by decide) rfl (fun ls hl => ?_)
            exact L73 129 ls f_52 H locs z89 (show 69 - z89.toInt < _ by omega) (lv_cons hl 1 rfl (lv_cons hl 2 rfl (lv_cons hl 3 rfl (lv_cons hl 4 rfl (lv_cons hl 5 rfl (lv_cons hl 6 rfl (lv_cons hl 7 rfl (lv_cons hl 0 rfl (lv_nil hl))))))))) h t_52 o_52 i72 (iv_w iz89 (by decide)) k52_u0_14 k52_u0_12 k52_u0_13
      refine lv_iload hx hb dX11_goes_3 (lv_at hl 4 rfl) ?_
      refine lv_sipush (v := 19600) hx hb dX11_goes_5 (by decide) ?_
      refine lv_icmp_ge (tgt := 25) hx hb dX11_goes_8 (by decide) (fun c90 => ?_) (fun c90 => ?_)
      · have c91 : 19600 ≤ v3_4.toInt := Int32.le_iff_toInt_le.mp c90
        have i92 : iv v3_4 19600 19600 := iv_Er c91 (iv_k (x := 19600) (k := 19600) rfl) iv3_4 (by decide)
        refine lv_aload_n hx hb dX11_goes_25 rfl (lv_at hl 0 rfl) ?_
        refine lv_iload_n hx hb dX11_goes_26 rfl (lv_at hl 1 rfl) ?_
        refine lv_bipush (v := 8) hx hb dX11_goes_27 (by decide) ?_
        obtain ⟨_, r95⟩ := t_rec t_3 hu0 (by decide) wf_60
        refine k_i (r_V C h hl (As := [.int u1, .int 8]) (rest := []) (s_X11_weightOf l D G b0 τ f_3 t_3 u0 hu0 u1 hu1 8 (iv_w (iv_k (x := 8) (k := 8) rfl) (by decide))) r95 (Cn := RX11) (T := TX11) (N := 32) rfl rfl mk_X11_weightOf w_1631 w_1633 w_52 w_1634 ⟨Nat.le_of_ble_eq_true rfl, Nat.le_of_ble_eq_true rfl⟩ rfl (Nat.le_of_ble_eq_true rfl) ⟨Nat.le_of_ble_eq_true rfl, Nat.le_of_ble_eq_true rfl⟩ rfl dX11_goes_29) h (fun r96 f97 H locs p98 h => ?_)
        obtain ⟨ir96, tf97, ogf97⟩ := p98
        have egf97 := Fr.nil2 ogf97
        subst egf97
        refine lv_istore (lv' := [(4, .int r96), (0, .ref u0), (1, .int u1), (2, .int u2), (3, .int u3)]) hx hb dX11_goes_32 hl (by decide) rfl (fun ls hl => ?_)
        refine lv_aload_n hx hb dX11_goes_34 rfl (lv_at hl 1 rfl) ?_
        refine lv_iload_n hx hb dX11_goes_35 rfl (lv_at hl 2 rfl) ?_
        refine lv_bipush (v := 9) hx hb dX11_goes_36 (by decide) ?_
        obtain ⟨_, r99⟩ := t_rec t_3 hu0 (by decide) wf_60
        refine k_i (r_V C h hl (As := [.int u1, .int 9]) (rest := []) (s_X11_weightOf l D G b0 τ f_3 t_3 u0 hu0 u1 hu1 9 (iv_w (iv_k (x := 9) (k := 9) rfl) (by decide))) r99 (Cn := RX11) (T := TX11) (N := 32) rfl rfl mk_X11_weightOf w_1631 w_1633 w_52 w_1634 ⟨Nat.le_of_ble_eq_true rfl, Nat.le_of_ble_eq_true rfl⟩ rfl (Nat.le_of_ble_eq_true rfl) ⟨Nat.le_of_ble_eq_true rfl, Nat.le_of_ble_eq_true rfl⟩ rfl dX11_goes_38) h (fun r100 f101 H locs p102 h => ?_)
        obtain ⟨ir100, tf101, ogf101⟩ := p102
        have egf101 := Fr.nil2 ogf101
        subst egf101
        refine lv_istore (lv' := [(5, .int r100), (4, .int r96), (0, .ref u0), (1, .int u1), (2, .int u2), (3, .int u3)]) hx hb dX11_goes_41 hl (by decide) rfl (fun ls hl => ?_)
        refine lv_iload hx hb dX11_goes_43 (lv_at hl 1 rfl) ?_
        refine lv_aload_n hx hb dX11_goes_45 rfl (lv_at hl 2 rfl) ?_
        refine t_getfd C h t_3 hu0 (by decide) wf_60 (v := .int gn) k3_u0_14 fl_X11_209 dX11_goes_46 ?_
        refine i_sub hx hb dX11_goes_49 ir96 hgn (lo := (-59)) (hi := 9) (by decide) (fun z103 ez103 mz103 iz103 => ?_)
        refine lv_istore (lv' := [(6, .int z103), (5, .int r100), (4, .int r96), (0, .ref u0), (1, .int u1), (2, .int u2), (3, .int u3)]) hx hb dX11_goes_50 hl (by decide) rfl (fun ls hl => ?_)
        exact L52 129 ls f_3 H locs r96 r100 z103 (show 69 - z103.toInt < _ by omega) (lv_cons hl 3 rfl (lv_cons hl 4 rfl (lv_cons hl 5 rfl (lv_cons hl 6 rfl (lv_cons hl 2 rfl (lv_cons hl 1 rfl (lv_cons hl 0 rfl (lv_nil hl)))))))) h t_3 o_3 ir96 ir100 (iv_w iz103 (by decide)) k3_u0_14 k3_u0_12 k3_u0_13
      · have c93 : v3_4.toInt < 19600 := Int32.lt_iff_toInt_lt.mp (iv_nle c90)
        have i94 : iv v3_4 0 19599 := iv_Ll c93 iv3_4 (iv_k (x := 19600) (k := 19600) rfl) (by decide)
        refine lv_aload_n hx hb dX11_goes_11 rfl (lv_at hl 0 rfl) ?_
        refine t_getfd C h t_3 hu0 (by decide) wf_60 (v := .ref gb) k3_u0_13 fl_X11_33 dX11_goes_12 ?_
        refine lv_iload hx hb dX11_goes_15 (lv_at hl 4 rfl) ?_
        refine lv_lconst (v := 0) hx hb dX11_goes_17 (by decide) ?_
        refine t_last C h t_3 o_3 hgb (by decide) (by decide) wf_67 fw_67 (iv_in i94 (by decide)) dX11_goes_18 (fun f104 H locs h tf104 of104 hq => ?_)
        have k105 := atp.tg k3_u0_14 hq hu0 (by decide)
        have k106 := atp.tg k3_u0_12 hq hu0 (by decide)
        have k107 := atp.tg k3_u0_13 hq hu0 (by decide)
        refine i_inc hx hb dX11_goes_19 hl (k := 4) rfl i94 rfl (lo := 1) (hi := 19600) (by decide) (by decide) (lv' := fun v => [(4, .int v), (0, .ref u0), (1, .int u1), (2, .int u2), (3, .int u3)]) (fun _ => rfl) (fun z108 ls ez108 mz108 iz108 hl => ?_)
        refine lv_goto (tgt := 3) hx hb dX11_goes_22 (by decide) ?_
        exact ih3 ls f104 H locs z108 (show 19600 - z108.toInt < _ by omega) (lv_cons hl 1 rfl (lv_cons hl 2 rfl (lv_cons hl 3 rfl (lv_cons hl 4 rfl (lv_cons hl 0 rfl (lv_nil hl)))))) h tf104 of104 (iv_w iz108 (by decide)) k105 k106 k107
  refine lv_iconst (v := 0) hx hb dX11_goes_0 (by decide) ?_
  refine lv_istore (lv' := [(4, .int 0), (0, .ref u0), (1, .int u1), (2, .int u2), (3, .int u3)]) hx hb dX11_goes_1 hl (by decide) rfl (fun ls hl => ?_)
  exact L3 19601 ls f s.heap [] 0 (by decide) (lv_cons hl 1 rfl (lv_cons hl 2 rfl (lv_cons hl 3 rfl (lv_cons hl 4 rfl (lv_cons hl 0 rfl (lv_nil hl)))))) h t o ⟨by decide, by decide⟩ k_u0_14 k_u0_12 k_u0_13
abbrev rm_s_X11_goesOn : Room := { frames := 2, cells := 0, slots := 0, locals := 58 }
set_option maxRecDepth 100000 in
set_option maxHeartbeats 4000000 in
theorem s_X11_goesOn (l : Launch) (D : va_G) (G : Nat → Nat) (b0 : Nat) (τ : Nat → Nat) (f : hM) (t : TI G 9 τ f) (u0 : Nat) (hu0 : τ u0 = 60) (u1 : Int32) (hu1 : iv u1 0 7) (u2 : Int32) (hu2 : iv u2 (-2147483648) 2147483647) (u3 : Int32) (hu3 : iv u3 (-2147483648) 2147483647) (u4 : Int32) (hu4 : iv u4 0 60) (hNG : NGs τ f u0) : mV l yX11_goesOn cX11_goesOn 6 rm_s_X11_goesOn D G b0 f [.ref u0, .int u1, .int u2, .int u3, .int u4] (fun f1 => TI G 9 τ f1 ∧ Fr [60, 67, 60013, 60014, 60015] τ f f1 ∧ (∃ gg : Int32, atp f1 u0 (fd 14 (.int gg)) ∧ iv gg 0 60 ∧ gg.toInt = u4.toInt) ∧ NGs τ f1 u0) := by
  refine met2 (own := RX11) (by decide) rfl (Nat.le_of_ble_eq_true rfl) ?_
  intro p e s m args below meth c ls Q hQ C hr hini hl h
  have hl : lv_has ls 6 [(0, .ref u0), (1, .int u1), (2, .int u2), (3, .int u3), (4, .int u4)] := hl
  obtain ⟨hx, hb, hml, hown, hts, hE0, hlk⟩ := id C
  have o := Fr.rf [60, 67, 60013, 60014, 60015] τ f
  have L8 : ∀ (n8 : Nat) (ls : Array Slot) (f_8 : hM) (H : Heap) (locs : List Loc) (v8_5 : Int32) (g8_u0_14 : Int32), 60 - v8_5.toInt < (n8 : Int) → lv_has ls 6 [(0, .ref u0), (1, .int u1), (2, .int u2), (3, .int u3), (4, .int u4), (5, .int v8_5)] → hw D b0 s.heap f_8 H locs → TI G 9 τ f_8 → Fr [60, 67, 60013, 60014, 60015] τ f f_8 → iv v8_5 0 60 → iv g8_u0_14 0 60 → NGs τ f_8 u0 → atp f_8 u0 (fd 14 (.int g8_u0_14)) → g8_u0_14.toInt = v8_5.toInt → v8_5.toInt ≤ u4.toInt → W p l e rm_s_X11_goesOn s m args below meth c H locs 0 0 Q (F0 m 8 ls []) := by
    intro n8
    induction n8 with
    | zero => intro ls f_8 H locs v8_5 g8_u0_14 hm8 hl h t_8 o_8 iv8_5 ig8_u0_14 k8_u0_NG k8_u0_14 hv8_0 hv8_1; exact absurd hm8 (by omega)
    | succ n8 ih8 =>
      intro ls f_8 H locs v8_5 g8_u0_14 hm8 hl h t_8 o_8 iv8_5 ig8_u0_14 k8_u0_NG k8_u0_14 hv8_0 hv8_1
      refine lv_iload hx hb dX11_goesOn_8 (lv_at hl 5 rfl) ?_
      refine lv_iload hx hb dX11_goesOn_10 (lv_at hl 4 rfl) ?_
      refine lv_icmp_ge (tgt := 28) hx hb dX11_goesOn_12 (by decide) (fun c1 => ?_) (fun c1 => ?_)
      · have c2 : u4.toInt ≤ v8_5.toInt := Int32.le_iff_toInt_le.mp c1
        exact u_vret C h hr hQ (⟨t_8, o_8, ⟨g8_u0_14, k8_u0_14, ig8_u0_14, (by omega)⟩, k8_u0_NG⟩) (Nat.le_of_ble_eq_true rfl) (Nat.le_of_ble_eq_true rfl) dX11_goesOn_28
      · have c3 : v8_5.toInt < u4.toInt := Int32.lt_iff_toInt_lt.mp (iv_nle c1)
        have i4 : iv v8_5 0 59 := iv_Ll c3 iv8_5 hu4 (by decide)
        have i5 : iv u4 1 60 := iv_Lr c3 iv8_5 hu4 (by decide)
        refine lv_aload_n hx hb dX11_goesOn_15 rfl (lv_at hl 0 rfl) ?_
        refine lv_iload_n hx hb dX11_goesOn_16 rfl (lv_at hl 1 rfl) ?_
        refine lv_iload_n hx hb dX11_goesOn_17 rfl (lv_at hl 2 rfl) ?_
        refine lv_iload_n hx hb dX11_goesOn_18 rfl (lv_at hl 3 rfl) ?_
        obtain ⟨_, r6⟩ := t_rec t_8 hu0 (by decide) wf_60
        refine k_v (r_V C h hl (As := [.int u1, .int u2, .int u3]) (rest := []) (s_X11_goes l D G b0 τ f_8 t_8 u0 hu0 u1 hu1 u2 hu2 u3 hu3 g8_u0_14 (show iv g8_u0_14 0 59 from by omega) k8_u0_14 k8_u0_NG) r6 (Cn := RX11) (T := TX11) (N := 32) rfl rfl mk_X11_goes w_1709 w_1711 w_59 w_1712 ⟨Nat.le_of_ble_eq_true rfl, Nat.le_of_ble_eq_true rfl⟩ rfl (Nat.le_of_ble_eq_true rfl) ⟨Nat.le_of_ble_eq_true rfl, Nat.le_of_ble_eq_true rfl⟩ rfl dX11_goesOn_19) h (fun f8 H locs p9 h => ?_)
        obtain ⟨tf8, ogf8, ⟨gg_f8, kpu0_14f8, ipu0_14f8, rpu0_14f8⟩, ngf8⟩ := p9
        have of8 : Fr [60, 67, 60013, 60014, 60015] τ f f8 := Fr.tr o_8 ogf8 (by decide) (by decide)
        refine i_inc hx hb dX11_goesOn_22 hl (k := 5) rfl i4 rfl (lo := 1) (hi := 60) (by decide) (by decide) (lv' := fun v => [(5, .int v), (0, .ref u0), (1, .int u1), (2, .int u2), (3, .int u3), (4, .int u4)]) (fun _ => rfl) (fun z10 ls ez10 mz10 iz10 hl => ?_)
        refine lv_goto (tgt := 8) hx hb dX11_goesOn_25 (by decide) ?_
        exact ih8 ls f8 H locs z10 gg_f8 (show 60 - z10.toInt < _ by omega) (lv_cons hl 1 rfl (lv_cons hl 2 rfl (lv_cons hl 3 rfl (lv_cons hl 4 rfl (lv_cons hl 5 rfl (lv_cons hl 0 rfl (lv_nil hl))))))) h tf8 of8 (iv_w iz10 (by decide)) (iv_w ipu0_14f8 (by decide)) ngf8 kpu0_14f8 (show gg_f8.toInt = z10.toInt by omega) (show z10.toInt ≤ u4.toInt by omega)
  refine lv_aload_n hx hb dX11_goesOn_0 rfl (lv_at hl 0 rfl) ?_
  refine lv_iload_n hx hb dX11_goesOn_1 rfl (lv_at hl 1 rfl) ?_
  obtain ⟨_, r11⟩ := t_rec t hu0 (by decide) wf_60
  refine k_v (r_V C h hl (As := [.int u1]) (rest := []) (s_X11_begins l D G b0 τ f t u0 hu0 u1 hu1) r11 (Cn := RX11) (T := TX11) (N := 32) rfl rfl mk_X11_begins w_1702 w_1704 w_58 w_1705 ⟨Nat.le_of_ble_eq_true rfl, Nat.le_of_ble_eq_true rfl⟩ rfl (Nat.le_of_ble_eq_true rfl) ⟨Nat.le_of_ble_eq_true rfl, Nat.le_of_ble_eq_true rfl⟩ rfl dX11_goesOn_2) h (fun f13 H locs p14 h => ?_)
  obtain ⟨tf13, ogf13, ⟨gg_f13, kpu0_14f13, ipu0_14f13, rpu0_14f13⟩⟩ := p14
  have of13 : Fr [60, 67, 60013, 60014, 60015] τ f f13 := Fr.tr o ogf13 (by decide) (by decide)
  have k15 := NGs.fr hNG ogf13 hu0 (by decide)
  refine lv_iconst (v := 0) hx hb dX11_goesOn_5 (by decide) ?_
  refine lv_istore (lv' := [(5, .int 0), (0, .ref u0), (1, .int u1), (2, .int u2), (3, .int u3), (4, .int u4)]) hx hb dX11_goesOn_6 hl (by decide) rfl (fun ls hl => ?_)
  exact L8 61 ls f13 H locs 0 gg_f13 (by decide) (lv_cons hl 1 rfl (lv_cons hl 2 rfl (lv_cons hl 3 rfl (lv_cons hl 4 rfl (lv_cons hl 5 rfl (lv_cons hl 0 rfl (lv_nil hl))))))) h tf13 of13 ⟨by decide, by decide⟩ (iv_w ipu0_14f13 (by decide)) k15 kpu0_14f13 (show gg_f13.toInt = 0 by omega) (show 0 ≤ u4.toInt by omega)
abbrev rm_s_X11_gridAt : Room := { frames := 1, cells := 0, slots := 0, locals := 25 }
set_option maxRecDepth 100000 in
set_option maxHeartbeats 4000000 in
theorem s_X11_gridAt (l : Launch) (D : va_G) (G : Nat → Nat) (b0 : Nat) (τ : Nat → Nat) (f : hM) (t : TI G 9 τ f) (u0 : Nat) (hu0 : τ u0 = 60) (u1 : Int32) (hu1 : iv u1 (-2147483648) 2147483647) (u2 : Int32) (hu2 : iv u2 (-2147483648) 2147483647) : mL l yX11_gridAt cX11_gridAt 3 rm_s_X11_gridAt D G b0 f [.ref u0, .int u1, .int u2] (fun r f1 => TI G 9 τ f1 ∧ Fr [] τ f f1) := by
  refine met2 (own := RX11) (by decide) rfl (Nat.le_of_ble_eq_true rfl) ?_
  intro p e s m args below meth c ls Q hQ C hr hini hl h
  have hl : lv_has ls 3 [(0, .ref u0), (1, .int u1), (2, .int u2)] := hl
  obtain ⟨hx, hb, hml, hown, hts, hE0, hlk⟩ := id C
  have o := Fr.rf [] τ f
  refine lv_iload_n hx hb dX11_gridAt_0 rfl (lv_at hl 1 rfl) ?_
  refine lv_i2l hx hb dX11_gridAt_1 rfl (i_topL hu1 (fun w1 ew1 mw1 iw1 => ?_))
  refine lv_ldc2 (v := -65) hx hb hown (hts _ w_1724) dX11_gridAt_2 ?_
  refine lv_ldc2 (v := 74) hx hb hown (hts _ w_1725) dX11_gridAt_5 ?_
  refine k_i (r_S C h hl (As := [.long w1, .long (-65), .long 74]) (rest := []) (s_X11_isIn l D G b0 τ f t w1 (-65) 74) mk_X11_isIn w_1624 w_1625 w_1626 ⟨Nat.le_of_ble_eq_true rfl, Nat.le_of_ble_eq_true rfl⟩ rfl (Nat.le_of_ble_eq_true rfl) ⟨Nat.le_of_ble_eq_true rfl, Nat.le_of_ble_eq_true rfl⟩ rfl dX11_gridAt_8) h (fun r2 f3 H locs p4 h => ?_)
  have n5 : (-65 : Int64).toInt = (-65) := rfl
  have n6 : (74 : Int64).toInt = 74 := rfl
  obtain ⟨ir2, tf3, ogf3, cnr2⟩ := p4
  have egf3 := Fr.nil2 ogf3
  subst egf3
  refine lv_if_eq (tgt := 41) hx hb dX11_gridAt_11 (by decide) (fun c7 => ?_) (fun c7 => ?_)
  · have c8 : r2.toInt = 0 := congrArg Int32.toInt c7
    have i9 : iv r2 0 0 := iv_Q c8 ir2 (iv_k (x := 0) (k := 0) rfl) (by decide)
    refine lv_lconst (v := 0) hx hb dX11_gridAt_41 (by decide) ?_
    exact u_lret C h hr hQ (⟨t, o⟩) (Nat.le_of_ble_eq_true rfl) (Nat.le_of_ble_eq_true rfl) dX11_gridAt_42
  · have c10 : r2.toInt ≠ 0 := fun z_ => c7 (Int32.toInt_inj.mp z_)
    have i11 : iv r2 1 1 := iv_Nl c10 ir2 (by decide)
    obtain ⟨i12, i13⟩ := cnr2 c10
    have i14 : iv u1 (-65) 74 := ⟨by omega, by omega⟩
    refine lv_iload_n hx hb dX11_gridAt_14 rfl (lv_at hl 2 rfl) ?_
    refine lv_i2l hx hb dX11_gridAt_15 rfl (i_topL hu2 (fun w15 ew15 mw15 iw15 => ?_))
    refine lv_ldc2 (v := -65) hx hb hown (hts _ w_1724) dX11_gridAt_16 ?_
    refine lv_ldc2 (v := 74) hx hb hown (hts _ w_1725) dX11_gridAt_19 ?_
    refine k_i (r_S C h hl (As := [.long w15, .long (-65), .long 74]) (rest := []) (s_X11_isIn l D G b0 τ f t w15 (-65) 74) mk_X11_isIn w_1624 w_1625 w_1626 ⟨Nat.le_of_ble_eq_true rfl, Nat.le_of_ble_eq_true rfl⟩ rfl (Nat.le_of_ble_eq_true rfl) ⟨Nat.le_of_ble_eq_true rfl, Nat.le_of_ble_eq_true rfl⟩ rfl dX11_gridAt_22) h (fun r16 f17 H locs p18 h => ?_)
    have n19 : (-65 : Int64).toInt = (-65) := rfl
    have n20 : (74 : Int64).toInt = 74 := rfl
    obtain ⟨ir16, tf17, ogf17, cnr16⟩ := p18
    have egf17 := Fr.nil2 ogf17
    subst egf17
    refine lv_if_eq (tgt := 41) hx hb dX11_gridAt_25 (by decide) (fun c21 => ?_) (fun c21 => ?_)
    · have c22 : r16.toInt = 0 := congrArg Int32.toInt c21
      have i23 : iv r16 0 0 := iv_Q c22 ir16 (iv_k (x := 0) (k := 0) rfl) (by decide)
      refine lv_lconst (v := 0) hx hb dX11_gridAt_41 (by decide) ?_
      exact u_lret C h hr hQ (⟨t, o⟩) (Nat.le_of_ble_eq_true rfl) (Nat.le_of_ble_eq_true rfl) dX11_gridAt_42
    · have c24 : r16.toInt ≠ 0 := fun z_ => c21 (Int32.toInt_inj.mp z_)
      have i25 : iv r16 1 1 := iv_Nl c24 ir16 (by decide)
      obtain ⟨i26, i27⟩ := cnr16 c24
      have i28 : iv u2 (-65) 74 := ⟨by omega, by omega⟩
      refine lv_aload_n hx hb dX11_gridAt_28 rfl (lv_at hl 0 rfl) ?_
      refine t_getr (tq := 67) C h t hu0 (by decide) wf_60 rfl fl_X11_29 dX11_gridAt_29 (fun q29 tq29 => ?_)
      refine lv_iload_n hx hb dX11_gridAt_32 rfl (lv_at hl 1 rfl) ?_
      refine lv_iload_n hx hb dX11_gridAt_33 rfl (lv_at hl 2 rfl) ?_
      refine k_i (r_S C h hl (As := [.int u1, .int u2]) (rest := [.ref q29]) (s_X11_cell l D G b0 τ f t u1 i14 u2 i28) mk_X11_cell w_1706 w_1707 w_1708 ⟨Nat.le_of_ble_eq_true rfl, Nat.le_of_ble_eq_true rfl⟩ rfl (Nat.le_of_ble_eq_true rfl) ⟨Nat.le_of_ble_eq_true rfl, Nat.le_of_ble_eq_true rfl⟩ rfl dX11_gridAt_34) h (fun r30 f31 H locs p32 h => ?_)
      obtain ⟨ir30, tf31, ogf31, x0r30⟩ := p32
      have egf31 := Fr.nil2 ogf31
      subst egf31
      refine t_lald C h t tq29 (by decide) wf_67 (iv_in ir30 (by decide)) dX11_gridAt_37 (fun w33 => ?_)
      refine lv_goto (tgt := 42) hx hb dX11_gridAt_38 (by decide) ?_
      exact u_lret C h hr hQ (⟨t, o⟩) (Nat.le_of_ble_eq_true rfl) (Nat.le_of_ble_eq_true rfl) dX11_gridAt_42
