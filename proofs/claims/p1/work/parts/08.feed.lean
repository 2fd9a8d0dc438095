theorem dX7_filled_0 : decode cX7_filled 0 = .ok (.iconst 0, 1) := by decide +kernel
theorem dX7_filled_1 : decode cX7_filled 1 = .ok (.istore_n 1, 1) := by decide +kernel
theorem dX7_filled_2 : decode cX7_filled 2 = .ok (.bipush 24, 2) := by decide +kernel
theorem dX7_filled_4 : decode cX7_filled 4 = .ok (.istore_n 2, 1) := by decide +kernel
theorem dX7_filled_5 : decode cX7_filled 5 = .ok (.iload_n 2, 1) := by decide +kernel
theorem dX7_filled_6 : decode cX7_filled 6 = .ok (.ifCond .lt 22, 3) := by decide +kernel
theorem dX7_filled_9 : decode cX7_filled 9 = .ok (.iload_n 0, 1) := by decide +kernel
theorem dX7_filled_10 : decode cX7_filled 10 = .ok (.iload_n 2, 1) := by decide +kernel
theorem dX7_filled_11 : decode cX7_filled 11 = .ok (.iushr, 1) := by decide +kernel
theorem dX7_filled_12 : decode cX7_filled 12 = .ok (.sipush 255, 3) := by decide +kernel
theorem dX7_filled_15 : decode cX7_filled 15 = .ok (.iand, 1) := by decide +kernel
theorem dX7_filled_16 : decode cX7_filled 16 = .ok (.ifCond .eq 6, 3) := by decide +kernel
theorem dX7_filled_22 : decode cX7_filled 22 = .ok (.iinc 2 (-8), 3) := by decide +kernel
theorem dX7_filled_25 : decode cX7_filled 25 = .ok (.goto (-20), 3) := by decide +kernel
theorem dX7_filled_28 : decode cX7_filled 28 = .ok (.iload_n 1, 1) := by decide +kernel
theorem dX7_filled_29 : decode cX7_filled 29 = .ok (.ireturn, 1) := by decide +kernel
theorem dX7_filled_19 : decode cX7_filled 19 = .ok (.iinc 1 1, 3) := by decide +kernel
theorem dX11_bytesOf_0 : decode cX11_bytesOf 0 = .ok (.iconst 0, 1) := by decide +kernel
theorem dX11_bytesOf_1 : decode cX11_bytesOf 1 = .ok (.istore_n 1, 1) := by decide +kernel
theorem dX11_bytesOf_2 : decode cX11_bytesOf 2 = .ok (.iconst 0, 1) := by decide +kernel
theorem dX11_bytesOf_3 : decode cX11_bytesOf 3 = .ok (.istore_n 2, 1) := by decide +kernel
theorem dX11_bytesOf_4 : decode cX11_bytesOf 4 = .ok (.iload_n 2, 1) := by decide +kernel
theorem dX11_bytesOf_5 : decode cX11_bytesOf 5 = .ok (.iconst 4, 1) := by decide +kernel
theorem dX11_bytesOf_6 : decode cX11_bytesOf 6 = .ok (.if_icmp .ge 30, 3) := by decide +kernel
theorem dX11_bytesOf_9 : decode cX11_bytesOf 9 = .ok (.iload_n 1, 1) := by decide +kernel
theorem dX11_bytesOf_10 : decode cX11_bytesOf 10 = .ok (.iload_n 0, 1) := by decide +kernel
theorem dX11_bytesOf_11 : decode cX11_bytesOf 11 = .ok (.bipush 8, 2) := by decide +kernel
theorem dX11_bytesOf_13 : decode cX11_bytesOf 13 = .ok (.iload_n 2, 1) := by decide +kernel
theorem dX11_bytesOf_14 : decode cX11_bytesOf 14 = .ok (.imul, 1) := by decide +kernel
theorem dX11_bytesOf_15 : decode cX11_bytesOf 15 = .ok (.ishr, 1) := by decide +kernel
theorem dX11_bytesOf_16 : decode cX11_bytesOf 16 = .ok (.sipush 255, 3) := by decide +kernel
theorem dX11_bytesOf_19 : decode cX11_bytesOf 19 = .ok (.iand, 1) := by decide +kernel
theorem dX11_bytesOf_20 : decode cX11_bytesOf 20 = .ok (.ifCond .ne 7, 3) := by decide +kernel
theorem dX11_bytesOf_27 : decode cX11_bytesOf 27 = .ok (.iconst 1, 1) := by decide +kernel
theorem dX11_bytesOf_28 : decode cX11_bytesOf 28 = .ok (.iadd, 1) := by decide +kernel
theorem dX11_bytesOf_29 : decode cX11_bytesOf 29 = .ok (.istore_n 1, 1) := by decide +kernel
theorem dX11_bytesOf_30 : decode cX11_bytesOf 30 = .ok (.iinc 2 1, 3) := by decide +kernel
theorem dX11_bytesOf_33 : decode cX11_bytesOf 33 = .ok (.goto (-29), 3) := by decide +kernel
theorem dX11_bytesOf_36 : decode cX11_bytesOf 36 = .ok (.iload_n 1, 1) := by decide +kernel
theorem dX11_bytesOf_37 : decode cX11_bytesOf 37 = .ok (.ireturn, 1) := by decide +kernel
theorem dX11_bytesOf_23 : decode cX11_bytesOf 23 = .ok (.iconst 0, 1) := by decide +kernel
theorem dX11_bytesOf_24 : decode cX11_bytesOf 24 = .ok (.goto 4, 3) := by decide +kernel
theorem dX7_append_0 : decode cX7_append 0 = .ok (.bipush 24, 2) := by decide +kernel
theorem dX7_append_2 : decode cX7_append 2 = .ok (.istore_n 2, 1) := by decide +kernel
theorem dX7_append_3 : decode cX7_append 3 = .ok (.iload_n 2, 1) := by decide +kernel
theorem dX7_append_4 : decode cX7_append 4 = .ok (.ifCond .lt 51, 3) := by decide +kernel
theorem dX7_append_7 : decode cX7_append 7 = .ok (.iload_n 1, 1) := by decide +kernel
theorem dX7_append_8 : decode cX7_append 8 = .ok (.iload_n 2, 1) := by decide +kernel
theorem dX7_append_9 : decode cX7_append 9 = .ok (.iushr, 1) := by decide +kernel
theorem dX7_append_10 : decode cX7_append 10 = .ok (.sipush 255, 3) := by decide +kernel
theorem dX7_append_13 : decode cX7_append 13 = .ok (.iand, 1) := by decide +kernel
theorem dX7_append_14 : decode cX7_append 14 = .ok (.istore_n 3, 1) := by decide +kernel
theorem dX7_append_15 : decode cX7_append 15 = .ok (.iload_n 3, 1) := by decide +kernel
theorem dX7_append_16 : decode cX7_append 16 = .ok (.ifCond .eq 33, 3) := by decide +kernel
theorem dX7_append_49 : decode cX7_append 49 = .ok (.iinc 2 (-8), 3) := by decide +kernel
theorem dX7_append_52 : decode cX7_append 52 = .ok (.goto (-49), 3) := by decide +kernel
theorem dX7_append_55 : decode cX7_append 55 = .ok (.return_, 1) := by decide +kernel
theorem dX7_append_19 : decode cX7_append 19 = .ok (.aload_n 0, 1) := by decide +kernel
theorem dX7_append_20 : decode cX7_append 20 = .ok (.getfield 18, 3) := by decide +kernel
theorem dX7_append_23 : decode cX7_append 23 = .ok (.sipush 200, 3) := by decide +kernel
theorem dX7_append_26 : decode cX7_append 26 = .ok (.if_icmp .ge 23, 3) := by decide +kernel
theorem dX7_append_29 : decode cX7_append 29 = .ok (.aload_n 0, 1) := by decide +kernel
theorem dX7_append_30 : decode cX7_append 30 = .ok (.getfield 11, 3) := by decide +kernel
theorem w_140 : Cond.fieldLink "QuarterWalks$Tape" 11 "QuarterWalks$Tape" "bytes" "[I" ∈ wAll := wIn 140 (by decide +kernel) (by decide +kernel)
theorem fl_X7_11 : fl RX7 11 8 1 := ⟨RX7, TX7, 7, rfl, inA_X7, by decide, w_140⟩
theorem dX7_append_33 : decode cX7_append 33 = .ok (.aload_n 0, 1) := by decide +kernel
theorem dX7_append_34 : decode cX7_append 34 = .ok (.getfield 18, 3) := by decide +kernel
theorem dX7_append_37 : decode cX7_append 37 = .ok (.iload_n 3, 1) := by decide +kernel
theorem dX7_append_38 : decode cX7_append 38 = .ok (.iastore, 1) := by decide +kernel
theorem dX7_append_39 : decode cX7_append 39 = .ok (.aload_n 0, 1) := by decide +kernel
theorem dX7_append_40 : decode cX7_append 40 = .ok (.dup, 1) := by decide +kernel
theorem dX7_append_41 : decode cX7_append 41 = .ok (.getfield 18, 3) := by decide +kernel
theorem dX7_append_44 : decode cX7_append 44 = .ok (.iconst 1, 1) := by decide +kernel
theorem dX7_append_45 : decode cX7_append 45 = .ok (.iadd, 1) := by decide +kernel
theorem dX7_append_46 : decode cX7_append 46 = .ok (.putfield 18, 3) := by decide +kernel
theorem flw_X7_18 : flw RX7 18 8 0 (.int) := ⟨RX7, TX7, 7, tyX7, rfl, inA_X7, by decide, w_139, tyX7_ok, nmX7, by decide +kernel, Or.inl rfl⟩
theorem dX10_feed_0 : decode cX10_feed 0 = .ok (.iload_n 1, 1) := by decide +kernel
theorem dX10_feed_1 : decode cX10_feed 1 = .ok (.invokestatic 75, 3) := by decide +kernel
theorem w_414 : Cond.methodLink "QuarterWalks" 75 yX7_filled ∈ wAll := wIn 414 (by decide +kernel) (by decide +kernel)
theorem mk_X7_filled : mk yX7_filled 1 := ⟨by decide +kernel, w_97⟩
theorem w_415 : Cond.static yX7_filled ∈ wAll := wIn 415 (by decide +kernel) (by decide +kernel)
theorem w_416 : Cond.code yX7_filled cX7_filled 3 (some .int) ∈ wAll := wIn 416 (by decide +kernel) (by decide +kernel)
theorem dX10_feed_4 : decode cX10_feed 4 = .ok (.iload_n 2, 1) := by decide +kernel
theorem dX10_feed_5 : decode cX10_feed 5 = .ok (.invokestatic 75, 3) := by decide +kernel
theorem dX10_feed_8 : decode cX10_feed 8 = .ok (.iadd, 1) := by decide +kernel
theorem dX10_feed_9 : decode cX10_feed 9 = .ok (.iload_n 3, 1) := by decide +kernel
theorem dX10_feed_10 : decode cX10_feed 10 = .ok (.invokestatic 75, 3) := by decide +kernel
theorem dX10_feed_13 : decode cX10_feed 13 = .ok (.iadd, 1) := by decide +kernel
theorem dX10_feed_14 : decode cX10_feed 14 = .ok (.iload 4, 2) := by decide +kernel
theorem dX10_feed_16 : decode cX10_feed 16 = .ok (.invokestatic 75, 3) := by decide +kernel
theorem dX10_feed_19 : decode cX10_feed 19 = .ok (.iadd, 1) := by decide +kernel
theorem dX10_feed_20 : decode cX10_feed 20 = .ok (.iload 5, 2) := by decide +kernel
theorem dX10_feed_22 : decode cX10_feed 22 = .ok (.invokestatic 75, 3) := by decide +kernel
theorem dX10_feed_25 : decode cX10_feed 25 = .ok (.iadd, 1) := by decide +kernel
theorem dX10_feed_26 : decode cX10_feed 26 = .ok (.istore 6, 2) := by decide +kernel
theorem dX10_feed_28 : decode cX10_feed 28 = .ok (.aload_n 0, 1) := by decide +kernel
theorem dX10_feed_29 : decode cX10_feed 29 = .ok (.getfield 12, 3) := by decide +kernel
theorem dX10_feed_32 : decode cX10_feed 32 = .ok (.getfield 79, 3) := by decide +kernel
theorem dX10_feed_35 : decode cX10_feed 35 = .ok (.iload 6, 2) := by decide +kernel
theorem dX10_feed_37 : decode cX10_feed 37 = .ok (.iadd, 1) := by decide +kernel
theorem dX10_feed_38 : decode cX10_feed 38 = .ok (.sipush 200, 3) := by decide +kernel
theorem dX10_feed_41 : decode cX10_feed 41 = .ok (.if_icmp .le 5, 3) := by decide +kernel
theorem dX10_feed_46 : decode cX10_feed 46 = .ok (.aload_n 0, 1) := by decide +kernel
theorem dX10_feed_47 : decode cX10_feed 47 = .ok (.getfield 12, 3) := by decide +kernel
theorem dX10_feed_50 : decode cX10_feed 50 = .ok (.iload_n 1, 1) := by decide +kernel
theorem dX10_feed_51 : decode cX10_feed 51 = .ok (.invokevirtual 83, 3) := by decide +kernel
theorem w_417 : Cond.methodLink "QuarterWalks" 83 yX7_append ∈ wAll := wIn 417 (by decide +kernel) (by decide +kernel)
theorem w_419 : Cond.selects yX7_append.cls yX7_append yX7_append ∈ wAll := wIn 419 (by decide +kernel) (by decide +kernel)
theorem mk_X7_append : mk yX7_append 1 := ⟨by decide +kernel, w_97⟩
theorem w_418 : Cond.instanceMethod yX7_append ∈ wAll := wIn 418 (by decide +kernel) (by decide +kernel)
theorem w_420 : Cond.code yX7_append cX7_append 4 none ∈ wAll := wIn 420 (by decide +kernel) (by decide +kernel)
theorem dX10_feed_54 : decode cX10_feed 54 = .ok (.aload_n 0, 1) := by decide +kernel
theorem dX10_feed_55 : decode cX10_feed 55 = .ok (.getfield 12, 3) := by decide +kernel
theorem dX10_feed_58 : decode cX10_feed 58 = .ok (.iload_n 2, 1) := by decide +kernel
theorem dX10_feed_59 : decode cX10_feed 59 = .ok (.invokevirtual 83, 3) := by decide +kernel
theorem dX10_feed_62 : decode cX10_feed 62 = .ok (.aload_n 0, 1) := by decide +kernel
theorem dX10_feed_63 : decode cX10_feed 63 = .ok (.getfield 12, 3) := by decide +kernel
theorem dX10_feed_66 : decode cX10_feed 66 = .ok (.iload_n 3, 1) := by decide +kernel
theorem dX10_feed_67 : decode cX10_feed 67 = .ok (.invokevirtual 83, 3) := by decide +kernel
theorem dX10_feed_70 : decode cX10_feed 70 = .ok (.aload_n 0, 1) := by decide +kernel
theorem dX10_feed_71 : decode cX10_feed 71 = .ok (.getfield 12, 3) := by decide +kernel
theorem dX10_feed_74 : decode cX10_feed 74 = .ok (.iload 4, 2) := by decide +kernel
theorem dX10_feed_76 : decode cX10_feed 76 = .ok (.invokevirtual 83, 3) := by decide +kernel
theorem dX10_feed_79 : decode cX10_feed 79 = .ok (.aload_n 0, 1) := by decide +kernel
theorem dX10_feed_80 : decode cX10_feed 80 = .ok (.getfield 12, 3) := by decide +kernel
theorem dX10_feed_83 : decode cX10_feed 83 = .ok (.iload 5, 2) := by decide +kernel
theorem dX10_feed_85 : decode cX10_feed 85 = .ok (.invokevirtual 83, 3) := by decide +kernel
theorem dX10_feed_88 : decode cX10_feed 88 = .ok (.aload_n 0, 1) := by decide +kernel
theorem dX10_feed_89 : decode cX10_feed 89 = .ok (.getfield 12, 3) := by decide +kernel
theorem dX10_feed_92 : decode cX10_feed 92 = .ok (.getfield 79, 3) := by decide +kernel
theorem dX10_feed_95 : decode cX10_feed 95 = .ok (.ireturn, 1) := by decide +kernel
theorem dX11_brings_0 : decode cX11_brings 0 = .ok (.bipush 24, 2) := by decide +kernel
theorem dX11_brings_2 : decode cX11_brings 2 = .ok (.istore_n 2, 1) := by decide +kernel
theorem dX11_brings_3 : decode cX11_brings 3 = .ok (.iload_n 2, 1) := by decide +kernel
theorem dX11_brings_4 : decode cX11_brings 4 = .ok (.ifCond .lt 45, 3) := by decide +kernel
theorem dX11_brings_7 : decode cX11_brings 7 = .ok (.iload_n 1, 1) := by decide +kernel
theorem dX11_brings_8 : decode cX11_brings 8 = .ok (.iload_n 2, 1) := by decide +kernel
theorem dX11_brings_9 : decode cX11_brings 9 = .ok (.ishr, 1) := by decide +kernel
theorem dX11_brings_10 : decode cX11_brings 10 = .ok (.sipush 255, 3) := by decide +kernel
theorem dX11_brings_13 : decode cX11_brings 13 = .ok (.iand, 1) := by decide +kernel
theorem dX11_brings_14 : decode cX11_brings 14 = .ok (.istore_n 3, 1) := by decide +kernel
theorem dX11_brings_15 : decode cX11_brings 15 = .ok (.iload_n 3, 1) := by decide +kernel
theorem dX11_brings_16 : decode cX11_brings 16 = .ok (.ifCond .ne 6, 3) := by decide +kernel
theorem dX11_brings_22 : decode cX11_brings 22 = .ok (.aload_n 0, 1) := by decide +kernel
theorem dX11_brings_23 : decode cX11_brings 23 = .ok (.getfield 9, 3) := by decide +kernel
theorem w_1434 : Cond.fieldLink "QuarterWalksModel" 9 "QuarterWalksModel" "tape" "[B" ∈ wAll := wIn 1434 (by decide +kernel) (by decide +kernel)
theorem fl_X11_9 : fl RX11 9 12 1 := ⟨RX11, TX11, 32, rfl, inA_X11, by decide, w_1434⟩
theorem dX11_brings_26 : decode cX11_brings 26 = .ok (.aload_n 0, 1) := by decide +kernel
theorem dX11_brings_27 : decode cX11_brings 27 = .ok (.getfield 79, 3) := by decide +kernel
theorem dX11_brings_30 : decode cX11_brings 30 = .ok (.iload_n 3, 1) := by decide +kernel
theorem dX11_brings_31 : decode cX11_brings 31 = .ok (.i2b, 1) := by decide +kernel
theorem dX11_brings_32 : decode cX11_brings 32 = .ok (.bastore, 1) := by decide +kernel
theorem dX11_brings_33 : decode cX11_brings 33 = .ok (.aload_n 0, 1) := by decide +kernel
theorem dX11_brings_34 : decode cX11_brings 34 = .ok (.dup, 1) := by decide +kernel
theorem dX11_brings_35 : decode cX11_brings 35 = .ok (.getfield 79, 3) := by decide +kernel
theorem dX11_brings_38 : decode cX11_brings 38 = .ok (.iconst 1, 1) := by decide +kernel
theorem dX11_brings_39 : decode cX11_brings 39 = .ok (.iadd, 1) := by decide +kernel
theorem dX11_brings_40 : decode cX11_brings 40 = .ok (.putfield 79, 3) := by decide +kernel
theorem dX11_brings_43 : decode cX11_brings 43 = .ok (.iinc 2 (-8), 3) := by decide +kernel
theorem dX11_brings_46 : decode cX11_brings 46 = .ok (.goto (-43), 3) := by decide +kernel
theorem dX11_brings_49 : decode cX11_brings 49 = .ok (.return_, 1) := by decide +kernel
theorem dX11_brings_19 : decode cX11_brings 19 = .ok (.goto 24, 3) := by decide +kernel
theorem dX11_feed_0 : decode cX11_feed 0 = .ok (.aload_n 0, 1) := by decide +kernel
theorem dX11_feed_1 : decode cX11_feed 1 = .ok (.iconst 0, 1) := by decide +kernel
theorem dX11_feed_2 : decode cX11_feed 2 = .ok (.putfield 75, 3) := by decide +kernel
theorem dX11_feed_5 : decode cX11_feed 5 = .ok (.aload_n 0, 1) := by decide +kernel
theorem dX11_feed_6 : decode cX11_feed 6 = .ok (.getfield 79, 3) := by decide +kernel
theorem dX11_feed_9 : decode cX11_feed 9 = .ok (.iload_n 1, 1) := by decide +kernel
theorem dX11_feed_10 : decode cX11_feed 10 = .ok (.invokestatic 82, 3) := by decide +kernel
theorem w_1538 : Cond.methodLink "QuarterWalksModel" 82 yX11_bytesOf ∈ wAll := wIn 1538 (by decide +kernel) (by decide +kernel)
theorem mk_X11_bytesOf : mk yX11_bytesOf 1 := ⟨by decide +kernel, w_110⟩
theorem w_1539 : Cond.static yX11_bytesOf ∈ wAll := wIn 1539 (by decide +kernel) (by decide +kernel)
theorem w_1540 : Cond.code yX11_bytesOf cX11_bytesOf 3 (some .int) ∈ wAll := wIn 1540 (by decide +kernel) (by decide +kernel)
theorem dX11_feed_13 : decode cX11_feed 13 = .ok (.iadd, 1) := by decide +kernel
theorem dX11_feed_14 : decode cX11_feed 14 = .ok (.iload_n 2, 1) := by decide +kernel
theorem dX11_feed_15 : decode cX11_feed 15 = .ok (.invokestatic 82, 3) := by decide +kernel
theorem dX11_feed_18 : decode cX11_feed 18 = .ok (.iadd, 1) := by decide +kernel
theorem dX11_feed_19 : decode cX11_feed 19 = .ok (.iload_n 3, 1) := by decide +kernel
theorem dX11_feed_20 : decode cX11_feed 20 = .ok (.invokestatic 82, 3) := by decide +kernel
theorem dX11_feed_23 : decode cX11_feed 23 = .ok (.iadd, 1) := by decide +kernel
theorem dX11_feed_24 : decode cX11_feed 24 = .ok (.iload 4, 2) := by decide +kernel
theorem dX11_feed_26 : decode cX11_feed 26 = .ok (.invokestatic 82, 3) := by decide +kernel
theorem dX11_feed_29 : decode cX11_feed 29 = .ok (.iadd, 1) := by decide +kernel
theorem dX11_feed_30 : decode cX11_feed 30 = .ok (.iload 5, 2) := by decide +kernel
theorem dX11_feed_32 : decode cX11_feed 32 = .ok (.invokestatic 82, 3) := by decide +kernel
theorem dX11_feed_35 : decode cX11_feed 35 = .ok (.iadd, 1) := by decide +kernel
theorem dX11_feed_36 : decode cX11_feed 36 = .ok (.sipush 200, 3) := by decide +kernel
theorem dX11_feed_39 : decode cX11_feed 39 = .ok (.if_icmp .le 5, 3) := by decide +kernel
theorem dX11_feed_44 : decode cX11_feed 44 = .ok (.aload_n 0, 1) := by decide +kernel
theorem dX11_feed_45 : decode cX11_feed 45 = .ok (.iload_n 1, 1) := by decide +kernel
theorem dX11_feed_46 : decode cX11_feed 46 = .ok (.invokevirtual 86, 3) := by decide +kernel
theorem w_1541 : Cond.methodLink "QuarterWalksModel" 86 yX11_brings ∈ wAll := wIn 1541 (by decide +kernel) (by decide +kernel)
theorem w_37 : Cond.selects yX11_brings.cls yX11_brings yX11_brings ∈ wAll := wIn 37 (by decide +kernel) (by decide +kernel)
theorem mk_X11_brings : mk yX11_brings 1 := ⟨by decide +kernel, w_110⟩
theorem w_1543 : Cond.instanceMethod yX11_brings ∈ wAll := wIn 1543 (by decide +kernel) (by decide +kernel)
theorem w_1544 : Cond.code yX11_brings cX11_brings 4 none ∈ wAll := wIn 1544 (by decide +kernel) (by decide +kernel)
theorem dX11_feed_49 : decode cX11_feed 49 = .ok (.aload_n 0, 1) := by decide +kernel
theorem dX11_feed_50 : decode cX11_feed 50 = .ok (.iload_n 2, 1) := by decide +kernel
theorem dX11_feed_51 : decode cX11_feed 51 = .ok (.invokevirtual 86, 3) := by decide +kernel
theorem dX11_feed_54 : decode cX11_feed 54 = .ok (.aload_n 0, 1) := by decide +kernel
theorem dX11_feed_55 : decode cX11_feed 55 = .ok (.iload_n 3, 1) := by decide +kernel
theorem dX11_feed_56 : decode cX11_feed 56 = .ok (.invokevirtual 86, 3) := by decide +kernel
theorem dX11_feed_59 : decode cX11_feed 59 = .ok (.aload_n 0, 1) := by decide +kernel
theorem dX11_feed_60 : decode cX11_feed 60 = .ok (.iload 4, 2) := by decide +kernel
theorem dX11_feed_62 : decode cX11_feed 62 = .ok (.invokevirtual 86, 3) := by decide +kernel
theorem dX11_feed_65 : decode cX11_feed 65 = .ok (.aload_n 0, 1) := by decide +kernel
theorem dX11_feed_66 : decode cX11_feed 66 = .ok (.iload 5, 2) := by decide +kernel
theorem dX11_feed_68 : decode cX11_feed 68 = .ok (.invokevirtual 86, 3) := by decide +kernel
theorem dX11_feed_71 : decode cX11_feed 71 = .ok (.aload_n 0, 1) := by decide +kernel
theorem dX11_feed_72 : decode cX11_feed 72 = .ok (.getfield 79, 3) := by decide +kernel
theorem dX11_feed_75 : decode cX11_feed 75 = .ok (.ireturn, 1) := by decide +kernel
/-! ===== Int32 by its bits: bt x i ===== -/
def bt (x : Int32) (i : Nat) : Bool := x.toBitVec.getLsbD i
theorem b_ext {x y : Int32} (h : ∀ i, i < 32 → bt x i = bt y i) : x = y := Int32.toBitVec_inj.mp (BitVec.eq_of_getLsbD_eq (fun i hi => h i hi))
theorem b_or (x y : Int32) (i : Nat) : bt (x ||| y) i = (bt x i || bt y i) := by unfold bt; rw [Int32.toBitVec_or, BitVec.getLsbD_or]
theorem b_and (x y : Int32) (i : Nat) : bt (x &&& y) i = (bt x i && bt y i) := by unfold bt; rw [Int32.toBitVec_and, BitVec.getLsbD_and]
theorem b_xor (x y : Int32) (i : Nat) : bt (x ^^^ y) i = (bt x i ^^ bt y i) := by unfold bt; rw [Int32.toBitVec_xor, BitVec.getLsbD_xor]
theorem b_big {x : Int32} {i : Nat} (h : 32 ≤ i) : bt x i = false := BitVec.getLsbD_of_ge _ _ h
theorem b_255 (i : Nat) : bt 255 i = decide (i < 8) := by
  rcases Nat.lt_or_ge i 32 with h | h
  · exact (by decide +kernel : ∀ i, i < 32 → bt 255 i = decide (i < 8)) i h
  · rw [b_big h, decide_eq_false (by omega)]
theorem b_65535 (i : Nat) : bt 65535 i = decide (i < 16) := by
  rcases Nat.lt_or_ge i 32 with h | h
  · exact (by decide +kernel : ∀ i, i < 32 → bt 65535 i = decide (i < 16)) i h
  · rw [b_big h, decide_eq_false (by omega)]
theorem b_m1 : ∀ i, i < 32 → bt (-1) i = true := by decide +kernel
theorem b_0 (i : Nat) : bt 0 i = false := BitVec.getLsbD_zero
theorem s_l : ∀ n, n < 32 → ((nI n &&& 31).toBitVec.smod 32).toNat = n := by decide +kernel
theorem s_u : ∀ n, n < 32 → (((nI n).toUInt32 &&& Int32.toUInt32 31).toBitVec % 32).toNat = n := by decide +kernel
theorem b_shl (n : Nat) (hn : n < 32) (x : Int32) {i : Nat} (hi : i < 32) : bt (x <<< (nI n &&& 31)) i = (decide (n ≤ i) && bt x (i - n)) := by
  unfold bt
  rw [Int32.toBitVec_shiftLeft]
  show (x.toBitVec <<< ((nI n &&& 31).toBitVec.smod 32).toNat).getLsbD i = _
  rw [s_l n hn, BitVec.getLsbD_shiftLeft]
  rcases Nat.lt_or_ge i n with h | h
  · simp [h, Nat.not_le.mpr h]
  · simp [hi, h, Nat.not_lt.mpr h]
theorem b_ushr (n : Nat) (hn : n < 32) (x : Int32) (i : Nat) : bt ((x.toUInt32 >>> ((nI n).toUInt32 &&& Int32.toUInt32 31)).toInt32) i = bt x (n + i) := by
  show (x.toUInt32 >>> ((nI n).toUInt32 &&& Int32.toUInt32 31)).toBitVec.getLsbD i = x.toUInt32.toBitVec.getLsbD (n + i)
  rw [UInt32.toBitVec_shiftRight]
  show (x.toUInt32.toBitVec >>> (((nI n).toUInt32 &&& Int32.toUInt32 31).toBitVec % 32).toNat).getLsbD i = _
  rw [s_u n hn, BitVec.getLsbD_ushiftRight]
theorem b_sshr (n : Nat) (hn : n < 32) (x : Int32) {i : Nat} (hi : i < 32) : bt (x >>> (nI n &&& 31)) i = if n + i < 32 then bt x (n + i) else bt x 31 := by
  unfold bt
  rw [Int32.toBitVec_shiftRight]
  show (x.toBitVec.sshiftRight ((nI n &&& 31).toBitVec.smod 32).toNat).getLsbD i = _
  rw [s_l n hn, BitVec.getLsbD_sshiftRight, BitVec.msb_eq_getLsbD_last]
  simp [hi]
theorem b_shl8 (x : Int32) {i : Nat} (hi : i < 32) : bt (x <<< ((8 : Int32) &&& 31)) i = (decide (8 ≤ i) && bt x (i - 8)) := b_shl 8 (by omega) x hi
theorem b_shl16 (x : Int32) {i : Nat} (hi : i < 32) : bt (x <<< ((16 : Int32) &&& 31)) i = (decide (16 ≤ i) && bt x (i - 16)) := b_shl 16 (by omega) x hi
theorem b_shl24 (x : Int32) {i : Nat} (hi : i < 32) : bt (x <<< ((24 : Int32) &&& 31)) i = (decide (24 ≤ i) && bt x (i - 24)) := b_shl 24 (by omega) x hi
theorem b_sshr8 (x : Int32) {i : Nat} (hi : i < 32) : bt (x >>> ((8 : Int32) &&& 31)) i = if 8 + i < 32 then bt x (8 + i) else bt x 31 := b_sshr 8 (by omega) x hi

def ub (a s : Int32) : Int32 := (a.toUInt32 >>> (Int32.toUInt32 s &&& Int32.toUInt32 31)).toInt32 &&& 255
def sbt (a s : Int32) : Int32 := (a >>> (s &&& 31)) &&& 255
theorem ub_sbt (a : Int32) (n : Nat) (hn : n ≤ 24) : ub a (nI n) = sbt a (nI n) := by
  unfold ub sbt
  apply b_ext
  intro i hi
  rw [b_and, b_and, b_255, b_ushr n (by omega) a i, b_sshr n (by omega) a hi]
  by_cases h : i < 8
  · rw [if_pos (by omega)]
  · simp [h]
def nz1 (x : Int32) : Nat := if x = 0 then 0 else 1
theorem nz1_le (x : Int32) : nz1 x ≤ 1 := by unfold nz1; split <;> omega
def nzN (a : Int32) : Nat := nz1 (ub a 24) + nz1 (ub a 16) + nz1 (ub a 8) + nz1 (ub a 0)
def nzM (a : Int32) : Nat := nz1 (sbt a 0) + nz1 (sbt a 8) + nz1 (sbt a 16) + nz1 (sbt a 24)
theorem nzN_le (a : Int32) : nzN a ≤ 4 := by
  have h1 := nz1_le (ub a 24)
  have h2 := nz1_le (ub a 16)
  have h3 := nz1_le (ub a 8)
  have h4 := nz1_le (ub a 0)
  unfold nzN; omega
theorem nzMN (a : Int32) : nzM a = nzN a := by
  have h1 : ub a 24 = sbt a 24 := ub_sbt a 24 (by omega)
  have h2 : ub a 16 = sbt a 16 := ub_sbt a 16 (by omega)
  have h3 : ub a 8 = sbt a 8 := ub_sbt a 8 (by omega)
  have h4 : ub a 0 = sbt a 0 := ub_sbt a 0 (by omega)
  unfold nzM nzN
  rw [h1, h2, h3, h4]; omega
theorem nzM_le (a : Int32) : nzM a ≤ 4 := by rw [nzMN]; exact nzN_le a
theorem nle200 {k : Nat} (h : k < 200) : ¬ (200 : Int32) ≤ nI k := nI_ge (a := k) (b := 200) h (by decide)
theorem le200 {k : Nat} (h : k ≤ 200) : nI k ≤ (200 : Int32) := nI_le (a := k) (b := 200) h (by decide)
def Vfeed (a b c d e : Int32) : Int32 := nI (nzN a + nzN b + nzN c + nzN d + nzN e)
theorem Vfeed_x (a b c d e : Int32) : Vfeed a b c d e = nI (0 + nzN a + nzN b + nzN c + nzN d + nzN e) := by unfold Vfeed; rw [Nat.zero_add]
theorem Vfeed_m (a b c d e : Int32) : Vfeed a b c d e = nI (0 + nzM a + nzM b + nzM c + nzM d + nzM e) := by unfold Vfeed; rw [Nat.zero_add, nzMN, nzMN, nzMN, nzMN, nzMN]
set_option maxRecDepth 100000 in
set_option maxHeartbeats 4000000 in
theorem c_X7_filled (l : Launch) (D : va_G) (G : Nat → Nat) (b0 : Nat) (f : hM) (p0 : Int32) : mI l yX7_filled cX7_filled 3 (.int) { frames := 0, cells := 0, slots := 0, locals := 0 } D G b0 f [.int p0] (fun r f1 => nI (nzN p0) = r ∧ f = f1) := by
  refine met_of (own := RX7) (by decide) rfl (Nat.le_of_ble_eq_true rfl) ?_
  intro p e s m below meth c ls C hr hini hl h
  have hl : lv_has ls 3 [(0, .int p0)] := hl
  obtain ⟨hx, hb, hml, hown, hts, hE0, hlk⟩ := id C
  refine lv_iconst (v := 0) hx hb dX7_filled_0 (by decide) ?_
  refine lv_istore_n (lv' := [(1, .int 0), (0, .int p0)]) hx hb dX7_filled_1 rfl hl (by decide) rfl (fun ls hl => ?_)
  refine lv_bipush (v := 24) hx hb dX7_filled_2 (by decide) ?_
  refine lv_istore_n (lv' := [(2, .int 24), (1, .int 0), (0, .int p0)]) hx hb dX7_filled_4 rfl hl (by decide) rfl (fun ls hl => ?_)
  refine lv_iload_n hx hb dX7_filled_5 rfl (lv_at hl 0 rfl) ?_
  refine lv_if_lt (tgt := 28) hx hb dX7_filled_6 (by decide) (fun c_804 => ?_) (fun c_804 => ?_)
  · exact absurd c_804 (by decide)
  · refine lv_iload_n hx hb dX7_filled_9 rfl (lv_at hl 2 rfl) ?_
    refine lv_iload_n hx hb dX7_filled_10 rfl (lv_at hl 0 rfl) ?_
    refine lv_iushr (v := (p0.toUInt32 >>> (Int32.toUInt32 24 &&& Int32.toUInt32 31)).toInt32) hx hb dX7_filled_11 rfl ?_
    refine lv_sipush (v := 255) hx hb dX7_filled_12 (by decide) ?_
    refine lv_iand hx hb dX7_filled_15 ?_
    refine lv_if_eq (tgt := 22) hx hb dX7_filled_16 (by decide) (fun c_805 => ?_) (fun c_805 => ?_)
    · refine lv_iinc (v := 16) (lv' := [(2, .int 16), (1, .int 0), (0, .int p0)]) hx hb dX7_filled_22 hl (k := 0) rfl (by decide) (by decide) rfl (fun ls hl => ?_)
      refine lv_goto (tgt := 5) hx hb dX7_filled_25 (by decide) ?_
      refine lv_iload_n hx hb dX7_filled_5 rfl (lv_at hl 0 rfl) ?_
      refine lv_if_lt (tgt := 28) hx hb dX7_filled_6 (by decide) (fun c_806 => ?_) (fun c_806 => ?_)
      · exact absurd c_806 (by decide)
      · refine lv_iload_n hx hb dX7_filled_9 rfl (lv_at hl 2 rfl) ?_
        refine lv_iload_n hx hb dX7_filled_10 rfl (lv_at hl 0 rfl) ?_
        refine lv_iushr (v := (p0.toUInt32 >>> (Int32.toUInt32 16 &&& Int32.toUInt32 31)).toInt32) hx hb dX7_filled_11 rfl ?_
        refine lv_sipush (v := 255) hx hb dX7_filled_12 (by decide) ?_
        refine lv_iand hx hb dX7_filled_15 ?_
        refine lv_if_eq (tgt := 22) hx hb dX7_filled_16 (by decide) (fun c_807 => ?_) (fun c_807 => ?_)
        · refine lv_iinc (v := 8) (lv' := [(2, .int 8), (1, .int 0), (0, .int p0)]) hx hb dX7_filled_22 hl (k := 0) rfl (by decide) (by decide) rfl (fun ls hl => ?_)
          refine lv_goto (tgt := 5) hx hb dX7_filled_25 (by decide) ?_
          refine lv_iload_n hx hb dX7_filled_5 rfl (lv_at hl 0 rfl) ?_
          refine lv_if_lt (tgt := 28) hx hb dX7_filled_6 (by decide) (fun c_808 => ?_) (fun c_808 => ?_)
          · exact absurd c_808 (by decide)
          · refine lv_iload_n hx hb dX7_filled_9 rfl (lv_at hl 2 rfl) ?_
            refine lv_iload_n hx hb dX7_filled_10 rfl (lv_at hl 0 rfl) ?_
            refine lv_iushr (v := (p0.toUInt32 >>> (Int32.toUInt32 8 &&& Int32.toUInt32 31)).toInt32) hx hb dX7_filled_11 rfl ?_
            refine lv_sipush (v := 255) hx hb dX7_filled_12 (by decide) ?_
            refine lv_iand hx hb dX7_filled_15 ?_
            refine lv_if_eq (tgt := 22) hx hb dX7_filled_16 (by decide) (fun c_809 => ?_) (fun c_809 => ?_)
            · refine lv_iinc (v := 0) (lv' := [(2, .int 0), (1, .int 0), (0, .int p0)]) hx hb dX7_filled_22 hl (k := 0) rfl (by decide) (by decide) rfl (fun ls hl => ?_)
              refine lv_goto (tgt := 5) hx hb dX7_filled_25 (by decide) ?_
              refine lv_iload_n hx hb dX7_filled_5 rfl (lv_at hl 0 rfl) ?_
              refine lv_if_lt (tgt := 28) hx hb dX7_filled_6 (by decide) (fun c_810 => ?_) (fun c_810 => ?_)
              · exact absurd c_810 (by decide)
              · refine lv_iload_n hx hb dX7_filled_9 rfl (lv_at hl 2 rfl) ?_
                refine lv_iload_n hx hb dX7_filled_10 rfl (lv_at hl 0 rfl) ?_
                refine lv_iushr (v := (p0.toUInt32 >>> (Int32.toUInt32 0 &&& Int32.toUInt32 31)).toInt32) hx hb dX7_filled_11 rfl ?_
                refine lv_sipush (v := 255) hx hb dX7_filled_12 (by decide) ?_
                refine lv_iand hx hb dX7_filled_15 ?_
                refine lv_if_eq (tgt := 22) hx hb dX7_filled_16 (by decide) (fun c_811 => ?_) (fun c_811 => ?_)
                · refine lv_iinc (v := -8) (lv' := [(2, .int (-8)), (1, .int 0), (0, .int p0)]) hx hb dX7_filled_22 hl (k := 0) rfl (by decide) (by decide) rfl (fun ls hl => ?_)
                  refine lv_goto (tgt := 5) hx hb dX7_filled_25 (by decide) ?_
                  refine lv_iload_n hx hb dX7_filled_5 rfl (lv_at hl 0 rfl) ?_
                  refine lv_if_lt (tgt := 28) hx hb dX7_filled_6 (by decide) (fun c_812 => ?_) (fun c_812 => ?_)
                  · refine lv_iload_n hx hb dX7_filled_28 rfl (lv_at hl 1 rfl) ?_
                    exact q_iret C h hr (⟨by unfold nzN nz1 ub; rw [if_pos c_805, if_pos c_807, if_pos c_809, if_pos c_811]; rfl, rfl⟩) (Nat.le_of_ble_eq_true rfl) (Nat.le_of_ble_eq_true rfl) dX7_filled_29
                  · exact absurd c_812 (by decide)
                · refine lv_iinc (v := 1) (lv' := [(1, .int 1), (2, .int 0), (0, .int p0)]) hx hb dX7_filled_19 hl (k := 1) rfl (by decide) (by decide) rfl (fun ls hl => ?_)
                  refine lv_iinc (v := -8) (lv' := [(2, .int (-8)), (1, .int 1), (0, .int p0)]) hx hb dX7_filled_22 hl (k := 1) rfl (by decide) (by decide) rfl (fun ls hl => ?_)
                  refine lv_goto (tgt := 5) hx hb dX7_filled_25 (by decide) ?_
                  refine lv_iload_n hx hb dX7_filled_5 rfl (lv_at hl 0 rfl) ?_
                  refine lv_if_lt (tgt := 28) hx hb dX7_filled_6 (by decide) (fun c_813 => ?_) (fun c_813 => ?_)
                  · refine lv_iload_n hx hb dX7_filled_28 rfl (lv_at hl 1 rfl) ?_
                    exact q_iret C h hr (⟨by unfold nzN nz1 ub; rw [if_pos c_805, if_pos c_807, if_pos c_809, if_neg c_811]; rfl, rfl⟩) (Nat.le_of_ble_eq_true rfl) (Nat.le_of_ble_eq_true rfl) dX7_filled_29
                  · exact absurd c_813 (by decide)
            · refine lv_iinc (v := 1) (lv' := [(1, .int 1), (2, .int 8), (0, .int p0)]) hx hb dX7_filled_19 hl (k := 1) rfl (by decide) (by decide) rfl (fun ls hl => ?_)
              refine lv_iinc (v := 0) (lv' := [(2, .int 0), (1, .int 1), (0, .int p0)]) hx hb dX7_filled_22 hl (k := 1) rfl (by decide) (by decide) rfl (fun ls hl => ?_)
              refine lv_goto (tgt := 5) hx hb dX7_filled_25 (by decide) ?_
              refine lv_iload_n hx hb dX7_filled_5 rfl (lv_at hl 0 rfl) ?_
              refine lv_if_lt (tgt := 28) hx hb dX7_filled_6 (by decide) (fun c_814 => ?_) (fun c_814 => ?_)
              · exact absurd c_814 (by decide)
              · refine lv_iload_n hx hb dX7_filled_9 rfl (lv_at hl 2 rfl) ?_
                refine lv_iload_n hx hb dX7_filled_10 rfl (lv_at hl 0 rfl) ?_
                refine lv_iushr (v := (p0.toUInt32 >>> (Int32.toUInt32 0 &&& Int32.toUInt32 31)).toInt32) hx hb dX7_filled_11 rfl ?_
                refine lv_sipush (v := 255) hx hb dX7_filled_12 (by decide) ?_
                refine lv_iand hx hb dX7_filled_15 ?_
                refine lv_if_eq (tgt := 22) hx hb dX7_filled_16 (by decide) (fun c_815 => ?_) (fun c_815 => ?_)
                · refine lv_iinc (v := -8) (lv' := [(2, .int (-8)), (1, .int 1), (0, .int p0)]) hx hb dX7_filled_22 hl (k := 0) rfl (by decide) (by decide) rfl (fun ls hl => ?_)
                  refine lv_goto (tgt := 5) hx hb dX7_filled_25 (by decide) ?_
                  refine lv_iload_n hx hb dX7_filled_5 rfl (lv_at hl 0 rfl) ?_
                  refine lv_if_lt (tgt := 28) hx hb dX7_filled_6 (by decide) (fun c_816 => ?_) (fun c_816 => ?_)
                  · refine lv_iload_n hx hb dX7_filled_28 rfl (lv_at hl 1 rfl) ?_
                    exact q_iret C h hr (⟨by unfold nzN nz1 ub; rw [if_pos c_805, if_pos c_807, if_neg c_809, if_pos c_815]; rfl, rfl⟩) (Nat.le_of_ble_eq_true rfl) (Nat.le_of_ble_eq_true rfl) dX7_filled_29
                  · exact absurd c_816 (by decide)
                · refine lv_iinc (v := 2) (lv' := [(1, .int 2), (2, .int 0), (0, .int p0)]) hx hb dX7_filled_19 hl (k := 1) rfl (by decide) (by decide) rfl (fun ls hl => ?_)
                  refine lv_iinc (v := -8) (lv' := [(2, .int (-8)), (1, .int 2), (0, .int p0)]) hx hb dX7_filled_22 hl (k := 1) rfl (by decide) (by decide) rfl (fun ls hl => ?_)
                  refine lv_goto (tgt := 5) hx hb dX7_filled_25 (by decide) ?_
                  refine lv_iload_n hx hb dX7_filled_5 rfl (lv_at hl 0 rfl) ?_
                  refine lv_if_lt (tgt := 28) hx hb dX7_filled_6 (by decide) (fun c_817 => ?_) (fun c_817 => ?_)
                  · refine lv_iload_n hx hb dX7_filled_28 rfl (lv_at hl 1 rfl) ?_
                    exact q_iret C h hr (⟨by unfold nzN nz1 ub; rw [if_pos c_805, if_pos c_807, if_neg c_809, if_neg c_815]; rfl, rfl⟩) (Nat.le_of_ble_eq_true rfl) (Nat.le_of_ble_eq_true rfl) dX7_filled_29
                  · exact absurd c_817 (by decide)
        · refine lv_iinc (v := 1) (lv' := [(1, .int 1), (2, .int 16), (0, .int p0)]) hx hb dX7_filled_19 hl (k := 1) rfl (by decide) (by decide) rfl (fun ls hl => ?_)
          refine lv_iinc (v := 8) (lv' := [(2, .int 8), (1, .int 1), (0, .int p0)]) hx hb dX7_filled_22 hl (k := 1) rfl (by decide) (by decide) rfl (fun ls hl => ?_)
          refine lv_goto (tgt := 5) hx hb dX7_filled_25 (by decide) ?_
          refine lv_iload_n hx hb dX7_filled_5 rfl (lv_at hl 0 rfl) ?_
          refine lv_if_lt (tgt := 28) hx hb dX7_filled_6 (by decide) (fun c_818 => ?_) (fun c_818 => ?_)
          · exact absurd c_818 (by decide)
          · refine lv_iload_n hx hb dX7_filled_9 rfl (lv_at hl 2 rfl) ?_
            refine lv_iload_n hx hb dX7_filled_10 rfl (lv_at hl 0 rfl) ?_
            refine lv_iushr (v := (p0.toUInt32 >>> (Int32.toUInt32 8 &&& Int32.toUInt32 31)).toInt32) hx hb dX7_filled_11 rfl ?_
            refine lv_sipush (v := 255) hx hb dX7_filled_12 (by decide) ?_
            refine lv_iand hx hb dX7_filled_15 ?_
            refine lv_if_eq (tgt := 22) hx hb dX7_filled_16 (by decide) (fun c_819 => ?_) (fun c_819 => ?_)
            · refine lv_iinc (v := 0) (lv' := [(2, .int 0), (1, .int 1), (0, .int p0)]) hx hb dX7_filled_22 hl (k := 0) rfl (by decide) (by decide) rfl (fun ls hl => ?_)
              refine lv_goto (tgt := 5) hx hb dX7_filled_25 (by decide) ?_
              refine lv_iload_n hx hb dX7_filled_5 rfl (lv_at hl 0 rfl) ?_
              refine lv_if_lt (tgt := 28) hx hb dX7_filled_6 (by decide) (fun c_820 => ?_) (fun c_820 => ?_)
              · exact absurd c_820 (by decide)
              · refine lv_iload_n hx hb dX7_filled_9 rfl (lv_at hl 2 rfl) ?_
                refine lv_iload_n hx hb dX7_filled_10 rfl (lv_at hl 0 rfl) ?_
                refine lv_iushr (v := (p0.toUInt32 >>> (Int32.toUInt32 0 &&& Int32.toUInt32 31)).toInt32) hx hb dX7_filled_11 rfl ?_
                refine lv_sipush (v := 255) hx hb dX7_filled_12 (by decide) ?_
                refine lv_iand hx hb dX7_filled_15 ?_
                refine lv_if_eq (tgt := 22) hx hb dX7_filled_16 (by decide) (fun c_821 => ?_) (fun c_821 => ?_)
                · refine lv_iinc (v := -8) (lv' := [(2, .int (-8)), (1, .int 1), (0, .int p0)]) hx hb dX7_filled_22 hl (k := 0) rfl (by decide) (by decide) rfl (fun ls hl => ?_)
                  refine lv_goto (tgt := 5) hx hb dX7_filled_25 (by decide) ?_
                  refine lv_iload_n hx hb dX7_filled_5 rfl (lv_at hl 0 rfl) ?_
                  refine lv_if_lt (tgt := 28) hx hb dX7_filled_6 (by decide) (fun c_822 => ?_) (fun c_822 => ?_)
                  · refine lv_iload_n hx hb dX7_filled_28 rfl (lv_at hl 1 rfl) ?_
                    exact q_iret C h hr (⟨by unfold nzN nz1 ub; rw [if_pos c_805, if_neg c_807, if_pos c_819, if_pos c_821]; rfl, rfl⟩) (Nat.le_of_ble_eq_true rfl) (Nat.le_of_ble_eq_true rfl) dX7_filled_29
                  · exact absurd c_822 (by decide)
                · refine lv_iinc (v := 2) (lv' := [(1, .int 2), (2, .int 0), (0, .int p0)]) hx hb dX7_filled_19 hl (k := 1) rfl (by decide) (by decide) rfl (fun ls hl => ?_)
                  refine lv_iinc (v := -8) (lv' := [(2, .int (-8)), (1, .int 2), (0, .int p0)]) hx hb dX7_filled_22 hl (k := 1) rfl (by decide) (by decide) rfl (fun ls hl => ?_)
                  refine lv_goto (tgt := 5) hx hb dX7_filled_25 (by decide) ?_
                  refine lv_iload_n hx hb dX7_filled_5 rfl (lv_at hl 0 rfl) ?_
                  refine lv_if_lt (tgt := 28) hx hb dX7_filled_6 (by decide) (fun c_823 => ?_) (fun c_823 => ?_)
                  · refine lv_iload_n hx hb dX7_filled_28 rfl (lv_at hl 1 rfl) ?_
                    exact q_iret C h hr (⟨by unfold nzN nz1 ub; rw [if_pos c_805, if_neg c_807, if_pos c_819, if_neg c_821]; rfl, rfl⟩) (Nat.le_of_ble_eq_true rfl) (Nat.le_of_ble_eq_true rfl) dX7_filled_29
                  · exact absurd c_823 (by decide)
            · refine lv_iinc (v := 2) (lv' := [(1, .int 2), (2, .int 8), (0, .int p0)]) hx hb dX7_filled_19 hl (k := 1) rfl (by decide) (by decide) rfl (fun ls hl => ?_)
              refine lv_iinc (v := 0) (lv' := [(2, .int 0), (1, .int 2), (0, .int p0)]) hx hb dX7_filled_22 hl (k := 1) rfl (by decide) (by decide) rfl (fun ls hl => ?_)
              refine lv_goto (tgt := 5) hx hb dX7_filled_25 (by decide) ?_
              refine lv_iload_n hx hb dX7_filled_5 rfl (lv_at hl 0 rfl) ?_
              refine lv_if_lt (tgt := 28) hx hb dX7_filled_6 (by decide) (fun c_824 => ?_) (fun c_824 => ?_)
              · exact absurd c_824 (by decide)
              · refine lv_iload_n hx hb dX7_filled_9 rfl (lv_at hl 2 rfl) ?_
                refine lv_iload_n hx hb dX7_filled_10 rfl (lv_at hl 0 rfl) ?_
                refine lv_iushr (v := (p0.toUInt32 >>> (Int32.toUInt32 0 &&& Int32.toUInt32 31)).toInt32) hx hb dX7_filled_11 rfl ?_
                refine lv_sipush (v := 255) hx hb dX7_filled_12 (by decide) ?_
                refine lv_iand hx hb dX7_filled_15 ?_
                refine lv_if_eq (tgt := 22) hx hb dX7_filled_16 (by decide) (fun c_825 => ?_) (fun c_825 => ?_)
                · refine lv_iinc (v := -8) (lv' := [(2, .int (-8)), (1, .int 2), (0, .int p0)]) hx hb dX7_filled_22 hl (k := 0) rfl (by decide) (by decide) rfl (fun ls hl => ?_)
                  refine lv_goto (tgt := 5) hx hb dX7_filled_25 (by decide) ?_
                  refine lv_iload_n hx hb dX7_filled_5 rfl (lv_at hl 0 rfl) ?_
                  refine lv_if_lt (tgt := 28) hx hb dX7_filled_6 (by decide) (fun c_826 => ?_) (fun c_826 => ?_)
                  · refine lv_iload_n hx hb dX7_filled_28 rfl (lv_at hl 1 rfl) ?_
                    exact q_iret C h hr (⟨by unfold nzN nz1 ub; rw [if_pos c_805, if_neg c_807, if_neg c_819, if_pos c_825]; rfl, rfl⟩) (Nat.le_of_ble_eq_true rfl) (Nat.le_of_ble_eq_true rfl) dX7_filled_29
                  · exact absurd c_826 (by decide)
                · refine lv_iinc (v := 3) (lv' := [(1, .int 3), (2, .int 0), (0, .int p0)]) hx hb dX7_filled_19 hl (k := 1) rfl (by decide) (by decide) rfl (fun ls hl => ?_)
                  refine lv_iinc (v := -8) (lv' := [(2, .int (-8)), (1, .int 3), (0, .int p0)]) hx hb dX7_filled_22 hl (k := 1) rfl (by decide) (by decide) rfl (fun ls hl => ?_)
                  refine lv_goto (tgt := 5) hx hb dX7_filled_25 (by decide) ?_
                  refine lv_iload_n hx hb dX7_filled_5 rfl (lv_at hl 0 rfl) ?_
                  refine lv_if_lt (tgt := 28) hx hb dX7_filled_6 (by decide) (fun c_827 => ?_) (fun c_827 => ?_)
                  · refine lv_iload_n hx hb dX7_filled_28 rfl (lv_at hl 1 rfl) ?_
                    exact q_iret C h hr (⟨by unfold nzN nz1 ub; rw [if_pos c_805, if_neg c_807, if_neg c_819, if_neg c_825]; rfl, rfl⟩) (Nat.le_of_ble_eq_true rfl) (Nat.le_of_ble_eq_true rfl) dX7_filled_29
                  · exact absurd c_827 (by decide)
    · refine lv_iinc (v := 1) (lv' := [(1, .int 1), (2, .int 24), (0, .int p0)]) hx hb dX7_filled_19 hl (k := 1) rfl (by decide) (by decide) rfl (fun ls hl => ?_)
      refine lv_iinc (v := 16) (lv' := [(2, .int 16), (1, .int 1), (0, .int p0)]) hx hb dX7_filled_22 hl (k := 1) rfl (by decide) (by decide) rfl (fun ls hl => ?_)
      refine lv_goto (tgt := 5) hx hb dX7_filled_25 (by decide) ?_
      refine lv_iload_n hx hb dX7_filled_5 rfl (lv_at hl 0 rfl) ?_
      refine lv_if_lt (tgt := 28) hx hb dX7_filled_6 (by decide) (fun c_828 => ?_) (fun c_828 => ?_)
      · exact absurd c_828 (by decide)
      · refine lv_iload_n hx hb dX7_filled_9 rfl (lv_at hl 2 rfl) ?_
        refine lv_iload_n hx hb dX7_filled_10 rfl (lv_at hl 0 rfl) ?_
        refine lv_iushr (v := (p0.toUInt32 >>> (Int32.toUInt32 16 &&& Int32.toUInt32 31)).toInt32) hx hb dX7_filled_11 rfl ?_
        refine lv_sipush (v := 255) hx hb dX7_filled_12 (by decide) ?_
        refine lv_iand hx hb dX7_filled_15 ?_
        refine lv_if_eq (tgt := 22) hx hb dX7_filled_16 (by decide) (fun c_829 => ?_) (fun c_829 => ?_)
        · refine lv_iinc (v := 8) (lv' := [(2, .int 8), (1, .int 1), (0, .int p0)]) hx hb dX7_filled_22 hl (k := 0) rfl (by decide) (by decide) rfl (fun ls hl => ?_)
          refine lv_goto (tgt := 5) hx hb dX7_filled_25 (by decide) ?_
          refine lv_iload_n hx hb dX7_filled_5 rfl (lv_at hl 0 rfl) ?_
          refine lv_if_lt (tgt := 28) hx hb dX7_filled_6 (by decide) (fun c_830 => ?_) (fun c_830 => ?_)
          · exact absurd c_830 (by decide)
          · refine lv_iload_n hx hb dX7_filled_9 rfl (lv_at hl 2 rfl) ?_
            refine lv_iload_n hx hb dX7_filled_10 rfl (lv_at hl 0 rfl) ?_
            refine lv_iushr (v := (p0.toUInt32 >>> (Int32.toUInt32 8 &&& Int32.toUInt32 31)).toInt32) hx hb dX7_filled_11 rfl ?_
            refine lv_sipush (v := 255) hx hb dX7_filled_12 (by decide) ?_
            refine lv_iand hx hb dX7_filled_15 ?_
            refine lv_if_eq (tgt := 22) hx hb dX7_filled_16 (by decide) (fun c_831 => ?_) (fun c_831 => ?_)
            · refine lv_iinc (v := 0) (lv' := [(2, .int 0), (1, .int 1), (0, .int p0)]) hx hb dX7_filled_22 hl (k := 0) rfl (by decide) (by decide) rfl (fun ls hl => ?_)
              refine lv_goto (tgt := 5) hx hb dX7_filled_25 (by decide) ?_
              refine lv_iload_n hx hb dX7_filled_5 rfl (lv_at hl 0 rfl) ?_
              refine lv_if_lt (tgt := 28) hx hb dX7_filled_6 (by decide) (fun c_832 => ?_) (fun c_832 => ?_)
              · exact absurd c_832 (by decide)
              · refine lv_iload_n hx hb dX7_filled_9 rfl (lv_at hl 2 rfl) ?_
                refine lv_iload_n hx hb dX7_filled_10 rfl (lv_at hl 0 rfl) ?_
                refine lv_iushr (v := (p0.toUInt32 >>> (Int32.toUInt32 0 &&& Int32.toUInt32 31)).toInt32) hx hb dX7_filled_11 rfl ?_
                refine lv_sipush (v := 255) hx hb dX7_filled_12 (by decide) ?_
                refine lv_iand hx hb dX7_filled_15 ?_
                refine lv_if_eq (tgt := 22) hx hb dX7_filled_16 (by decide) (fun c_833 => ?_) (fun c_833 => ?_)
                · refine lv_iinc (v := -8) (lv' := [(2, .int (-8)), (1, .int 1), (0, .int p0)]) hx hb dX7_filled_22 hl (k := 0) rfl (by decide) (by decide) rfl (fun ls hl => ?_)
                  refine lv_goto (tgt := 5) hx hb dX7_filled_25 (by decide) ?_
                  refine lv_iload_n hx hb dX7_filled_5 rfl (lv_at hl 0 rfl) ?_
                  refine lv_if_lt (tgt := 28) hx hb dX7_filled_6 (by decide) (fun c_834 => ?_) (fun c_834 => ?_)
                  · refine lv_iload_n hx hb dX7_filled_28 rfl (lv_at hl 1 rfl) ?_
                    exact q_iret C h hr (⟨by unfold nzN nz1 ub; rw [if_neg c_805, if_pos c_829, if_pos c_831, if_pos c_833]; rfl, rfl⟩) (Nat.le_of_ble_eq_true rfl) (Nat.le_of_ble_eq_true rfl) dX7_filled_29
                  · exact absurd c_834 (by decide)
                · refine lv_iinc (v := 2) (lv' := [(1, .int 2), (2, .int 0), (0, .int p0)]) hx hb dX7_filled_19 hl (k := 1) rfl (by decide) (by decide) rfl (fun ls hl => ?_)
                  refine lv_iinc (v := -8) (lv' := [(2, .int (-8)), (1, .int 2), (0, .int p0)]) hx hb dX7_filled_22 hl (k := 1) rfl (by decide) (by decide) rfl (fun ls hl => ?_)
                  refine lv_goto (tgt := 5) hx hb dX7_filled_25 (by decide) ?_
                  refine lv_iload_n hx hb dX7_filled_5 rfl (lv_at hl 0 rfl) ?_
                  refine lv_if_lt (tgt := 28) hx hb dX7_filled_6 (by decide) (fun c_835 => ?_) (fun c_835 => ?_)
                  · refine lv_iload_n hx hb dX7_filled_28 rfl (lv_at hl 1 rfl) ?_
                    exact q_iret C h hr (⟨by unfold nzN nz1 ub; rw [if_neg c_805, if_pos c_829, if_pos c_831, if_neg c_833]; rfl, rfl⟩) (Nat.le_of_ble_eq_true rfl) (Nat.le_of_ble_eq_true rfl) dX7_filled_29
                  · exact absurd c_835 (by decide)
            · refine lv_iinc (v := 2) (lv' := [(1, .int 2), (2, .int 8), (0, .int p0)]) hx hb dX7_filled_19 hl (k := 1) rfl (by decide) (by decide) rfl (fun ls hl => ?_)
              refine lv_iinc (v := 0) (lv' := [(2, .int 0), (1, .int 2), (0, .int p0)]) hx hb dX7_filled_22 hl (k := 1) rfl (by decide) (by decide) rfl (fun ls hl => ?_)
              refine lv_goto (tgt := 5) hx hb dX7_filled_25 (by decide) ?_
              refine lv_iload_n hx hb dX7_filled_5 rfl (lv_at hl 0 rfl) ?_
              refine lv_if_lt (tgt := 28) hx hb dX7_filled_6 (by decide) (fun c_836 => ?_) (fun c_836 => ?_)
              · exact absurd c_836 (by decide)
              · refine lv_iload_n hx hb dX7_filled_9 rfl (lv_at hl 2 rfl) ?_
                refine lv_iload_n hx hb dX7_filled_10 rfl (lv_at hl 0 rfl) ?_
                refine lv_iushr (v := (p0.toUInt32 >>> (Int32.toUInt32 0 &&& Int32.toUInt32 31)).toInt32) hx hb dX7_filled_11 rfl ?_
                refine lv_sipush (v := 255) hx hb dX7_filled_12 (by decide) ?_
                refine lv_iand hx hb dX7_filled_15 ?_
                refine lv_if_eq (tgt := 22) hx hb dX7_filled_16 (by decide) (fun c_837 => ?_) (fun c_837 => ?_)
                · refine lv_iinc (v := -8) (lv' := [(2, .int (-8)), (1, .int 2), (0, .int p0)]) hx hb dX7_filled_22 hl (k := 0) rfl (by decide) (by decide) rfl (fun ls hl => ?_)
                  refine lv_goto (tgt := 5) hx hb dX7_filled_25 (by decide) ?_
                  refine lv_iload_n hx hb dX7_filled_5 rfl (lv_at hl 0 rfl) ?_
                  refine lv_if_lt (tgt := 28) hx hb dX7_filled_6 (by decide) (fun c_838 => ?_) (fun c_838 => ?_)
                  · refine lv_iload_n hx hb dX7_filled_28 rfl (lv_at hl 1 rfl) ?_
                    exact q_iret C h hr (⟨by unfold nzN nz1 ub; rw [if_neg c_805, if_pos c_829, if_neg c_831, if_pos c_837]; rfl, rfl⟩) (Nat.le_of_ble_eq_true rfl) (Nat.le_of_ble_eq_true rfl) dX7_filled_29
                  · exact absurd c_838 (by decide)
                · refine lv_iinc (v := 3) (lv' := [(1, .int 3), (2, .int 0), (0, .int p0)]) hx hb dX7_filled_19 hl (k := 1) rfl (by decide) (by decide) rfl (fun ls hl => ?_)
                  refine lv_iinc (v := -8) (lv' := [(2, .int (-8)), (1, .int 3), (0, .int p0)]) hx hb dX7_filled_22 hl (k := 1) rfl (by decide) (by decide) rfl (fun ls hl => ?_)
                  refine lv_goto (tgt := 5) hx hb dX7_filled_25 (by decide) ?_
                  refine lv_iload_n hx hb dX7_filled_5 rfl (lv_at hl 0 rfl) ?_
                  refine lv_if_lt (tgt := 28) hx hb dX7_filled_6 (by decide) (fun c_839 => ?_) (fun c_839 => ?_)
                  · refine lv_iload_n hx hb dX7_filled_28 rfl (lv_at hl 1 rfl) ?_
                    exact q_iret C h hr (⟨by unfold nzN nz1 ub; rw [if_neg c_805, if_pos c_829, if_neg c_831, if_neg c_837]; rfl, rfl⟩) (Nat.le_of_ble_eq_true rfl) (Nat.le_of_ble_eq_true rfl) dX7_filled_29
                  · exact absurd c_839 (by decide)
        · refine lv_iinc (v := 2) (lv' := [(1, .int 2), (2, .int 16), (0, .int p0)]) hx hb dX7_filled_19 hl (k := 1) rfl (by decide) (by decide) rfl (fun ls hl => ?_)
          refine lv_iinc (v := 8) (lv' := [(2, .int 8), (1, .int 2), (0, .int p0)]) hx hb dX7_filled_22 hl (k := 1) rfl (by decide) (by decide) rfl (fun ls hl => ?_)
          refine lv_goto (tgt := 5) hx hb dX7_filled_25 (by decide) ?_
          refine lv_iload_n hx hb dX7_filled_5 rfl (lv_at hl 0 rfl) ?_
          refine lv_if_lt (tgt := 28) hx hb dX7_filled_6 (by decide) (fun c_840 => ?_) (fun c_840 => ?_)
          · exact absurd c_840 (by decide)
          · refine lv_iload_n hx hb dX7_filled_9 rfl (lv_at hl 2 rfl) ?_
            refine lv_iload_n hx hb dX7_filled_10 rfl (lv_at hl 0 rfl) ?_
            refine lv_iushr (v := (p0.toUInt32 >>> (Int32.toUInt32 8 &&& Int32.toUInt32 31)).toInt32) hx hb dX7_filled_11 rfl ?_
            refine lv_sipush (v := 255) hx hb dX7_filled_12 (by decide) ?_
            refine lv_iand hx hb dX7_filled_15 ?_
            refine lv_if_eq (tgt := 22) hx hb dX7_filled_16 (by decide) (fun c_841 => ?_) (fun c_841 => ?_)
            · refine lv_iinc (v := 0) (lv' := [(2, .int 0), (1, .int 2), (0, .int p0)]) hx hb dX7_filled_22 hl (k := 0) rfl (by decide) (by decide) rfl (fun ls hl => ?_)
              refine lv_goto (tgt := 5) hx hb dX7_filled_25 (by decide) ?_
              refine lv_iload_n hx hb dX7_filled_5 rfl (lv_at hl 0 rfl) ?_
              refine lv_if_lt (tgt := 28) hx hb dX7_filled_6 (by decide) (fun c_842 => ?_) (fun c_842 => ?_)
              · exact absurd c_842 (by decide)
              · refine lv_iload_n hx hb dX7_filled_9 rfl (lv_at hl 2 rfl) ?_
                refine lv_iload_n hx hb dX7_filled_10 rfl (lv_at hl 0 rfl) ?_
                refine lv_iushr (v := (p0.toUInt32 >>> (Int32.toUInt32 0 &&& Int32.toUInt32 31)).toInt32) hx hb dX7_filled_11 rfl ?_
                refine lv_sipush (v := 255) hx hb dX7_filled_12 (by decide) ?_
                refine lv_iand hx hb dX7_filled_15 ?_
                refine lv_if_eq (tgt := 22) hx hb dX7_filled_16 (by decide) (fun c_843 => ?_) (fun c_843 => ?_)
                · refine lv_iinc (v := -8) (lv' := [(2, .int (-8)), (1, .int 2), (0, .int p0)]) hx hb dX7_filled_22 hl (k := 0) rfl (by decide) (by decide) rfl (fun ls hl => ?_)
                  refine lv_goto (tgt := 5) hx hb dX7_filled_25 (by decide) ?_
                  refine lv_iload_n hx hb dX7_filled_5 rfl (lv_at hl 0 rfl) ?_
                  refine lv_if_lt (tgt := 28) hx hb dX7_filled_6 (by decide) (fun c_844 => ?_) (fun c_844 => ?_)
                  · refine lv_iload_n hx hb dX7_filled_28 rfl (lv_at hl 1 rfl) ?_
                    exact q_iret C h hr (⟨by unfold nzN nz1 ub; rw [if_neg c_805, if_neg c_829, if_pos c_841, if_pos c_843]; rfl, rfl⟩) (Nat.le_of_ble_eq_true rfl) (Nat.le_of_ble_eq_true rfl) dX7_filled_29
                  · exact absurd c_844 (by decide)
                · refine lv_iinc (v := 3) (lv' := [(1, .int 3), (2, .int 0), (0, .int p0)]) hx hb dX7_filled_19 hl (k := 1) rfl (by decide) (by decide) rfl (fun ls hl => ?_)
                  refine lv_iinc (v := -8) (lv' := [(2, .int (-8)), (1, .int 3), (0, .int p0)]) hx hb dX7_filled_22 hl (k := 1) rfl (by decide) (by decide) rfl (fun ls hl => ?_)
                  refine lv_goto (tgt := 5) hx hb dX7_filled_25 (by decide) ?_
                  refine lv_iload_n hx hb dX7_filled_5 rfl (lv_at hl 0 rfl) ?_
                  refine lv_if_lt (tgt := 28) hx hb dX7_filled_6 (by decide) (fun c_845 => ?_) (fun c_845 => ?_)
                  · refine lv_iload_n hx hb dX7_filled_28 rfl (lv_at hl 1 rfl) ?_
                    exact q_iret C h hr (⟨by unfold nzN nz1 ub; rw [if_neg c_805, if_neg c_829, if_pos c_841, if_neg c_843]; rfl, rfl⟩) (Nat.le_of_ble_eq_true rfl) (Nat.le_of_ble_eq_true rfl) dX7_filled_29
                  · exact absurd c_845 (by decide)
            · refine lv_iinc (v := 3) (lv' := [(1, .int 3), (2, .int 8), (0, .int p0)]) hx hb dX7_filled_19 hl (k := 1) rfl (by decide) (by decide) rfl (fun ls hl => ?_)
              refine lv_iinc (v := 0) (lv' := [(2, .int 0), (1, .int 3), (0, .int p0)]) hx hb dX7_filled_22 hl (k := 1) rfl (by decide) (by decide) rfl (fun ls hl => ?_)
              refine lv_goto (tgt := 5) hx hb dX7_filled_25 (by decide) ?_
              refine lv_iload_n hx hb dX7_filled_5 rfl (lv_at hl 0 rfl) ?_
              refine lv_if_lt (tgt := 28) hx hb dX7_filled_6 (by decide) (fun c_846 => ?_) (fun c_846 => ?_)
              · exact absurd c_846 (by decide)
              · refine lv_iload_n hx hb dX7_filled_9 rfl (lv_at hl 2 rfl) ?_
                refine lv_iload_n hx hb dX7_filled_10 rfl (lv_at hl 0 rfl) ?_
                refine lv_iushr (v := (p0.toUInt32 >>> (Int32.toUInt32 0 &&& Int32.toUInt32 31)).toInt32) hx hb dX7_filled_11 rfl ?_
                refine lv_sipush (v := 255) hx hb dX7_filled_12 (by decide) ?_
                refine lv_iand hx hb dX7_filled_15 ?_
                refine lv_if_eq (tgt := 22) hx hb dX7_filled_16 (by decide) (fun c_847 => ?_) (fun c_847 => ?_)
                · refine lv_iinc (v := -8) (lv' := [(2, .int (-8)), (1, .int 3), (0, .int p0)]) hx hb dX7_filled_22 hl (k := 0) rfl (by decide) (by decide) rfl (fun ls hl => ?_)
                  refine lv_goto (tgt := 5) hx hb dX7_filled_25 (by decide) ?_
                  refine lv_iload_n hx hb dX7_filled_5 rfl (lv_at hl 0 rfl) ?_
                  refine lv_if_lt (tgt := 28) hx hb dX7_filled_6 (by decide) (fun c_848 => ?_) (fun c_848 => ?_)
                  · refine lv_iload_n hx hb dX7_filled_28 rfl (lv_at hl 1 rfl) ?_
                    exact q_iret C h hr (⟨by unfold nzN nz1 ub; rw [if_neg c_805, if_neg c_829, if_neg c_841, if_pos c_847]; rfl, rfl⟩) (Nat.le_of_ble_eq_true rfl) (Nat.le_of_ble_eq_true rfl) dX7_filled_29
                  · exact absurd c_848 (by decide)
                · refine lv_iinc (v := 4) (lv' := [(1, .int 4), (2, .int 0), (0, .int p0)]) hx hb dX7_filled_19 hl (k := 1) rfl (by decide) (by decide) rfl (fun ls hl => ?_)
                  refine lv_iinc (v := -8) (lv' := [(2, .int (-8)), (1, .int 4), (0, .int p0)]) hx hb dX7_filled_22 hl (k := 1) rfl (by decide) (by decide) rfl (fun ls hl => ?_)
                  refine lv_goto (tgt := 5) hx hb dX7_filled_25 (by decide) ?_
                  refine lv_iload_n hx hb dX7_filled_5 rfl (lv_at hl 0 rfl) ?_
                  refine lv_if_lt (tgt := 28) hx hb dX7_filled_6 (by decide) (fun c_849 => ?_) (fun c_849 => ?_)
                  · refine lv_iload_n hx hb dX7_filled_28 rfl (lv_at hl 1 rfl) ?_
                    exact q_iret C h hr (⟨by unfold nzN nz1 ub; rw [if_neg c_805, if_neg c_829, if_neg c_841, if_neg c_847]; rfl, rfl⟩) (Nat.le_of_ble_eq_true rfl) (Nat.le_of_ble_eq_true rfl) dX7_filled_29
                  · exact absurd c_849 (by decide)
set_option maxRecDepth 100000 in
set_option maxHeartbeats 4000000 in
theorem c_X11_bytesOf (l : Launch) (D : va_G) (G : Nat → Nat) (b0 : Nat) (f : hM) (p0 : Int32) : mI l yX11_bytesOf cX11_bytesOf 3 (.int) { frames := 0, cells := 0, slots := 0, locals := 0 } D G b0 f [.int p0] (fun r f1 => nI (nzM p0) = r ∧ f = f1) := by
  refine met_of (own := RX11) (by decide) rfl (Nat.le_of_ble_eq_true rfl) ?_
  intro p e s m below meth c ls C hr hini hl h
  have hl : lv_has ls 3 [(0, .int p0)] := hl
  obtain ⟨hx, hb, hml, hown, hts, hE0, hlk⟩ := id C
  refine lv_iconst (v := 0) hx hb dX11_bytesOf_0 (by decide) ?_
  refine lv_istore_n (lv' := [(1, .int 0), (0, .int p0)]) hx hb dX11_bytesOf_1 rfl hl (by decide) rfl (fun ls hl => ?_)
  refine lv_iconst (v := 0) hx hb dX11_bytesOf_2 (by decide) ?_
  refine lv_istore_n (lv' := [(2, .int 0), (1, .int 0), (0, .int p0)]) hx hb dX11_bytesOf_3 rfl hl (by decide) rfl (fun ls hl => ?_)
  refine lv_iload_n hx hb dX11_bytesOf_4 rfl (lv_at hl 0 rfl) ?_
  refine lv_iconst (v := 4) hx hb dX11_bytesOf_5 (by decide) ?_
  refine lv_icmp_ge (tgt := 36) hx hb dX11_bytesOf_6 (by decide) (fun c_850 => ?_) (fun c_850 => ?_)
  · exact absurd c_850 (by decide)
  · refine lv_iload_n hx hb dX11_bytesOf_9 rfl (lv_at hl 1 rfl) ?_
    refine lv_iload_n hx hb dX11_bytesOf_10 rfl (lv_at hl 2 rfl) ?_
    refine lv_bipush (v := 8) hx hb dX11_bytesOf_11 (by decide) ?_
    refine lv_iload_n hx hb dX11_bytesOf_13 rfl (lv_at hl 0 rfl) ?_
    refine lv_imul hx hb dX11_bytesOf_14 ?_
    refine lv_topi (fun x_ e_ => ?_)
    obtain rfl : 0 = x_ := by rw [e_]; decide
    refine lv_ishr hx hb dX11_bytesOf_15 ?_
    refine lv_sipush (v := 255) hx hb dX11_bytesOf_16 (by decide) ?_
    refine lv_iand hx hb dX11_bytesOf_19 ?_
    refine lv_if_ne (tgt := 27) hx hb dX11_bytesOf_20 (by decide) (fun c_851 => ?_) (fun c_851 => ?_)
    · refine lv_iconst (v := 1) hx hb dX11_bytesOf_27 (by decide) ?_
      refine lv_iadd hx hb dX11_bytesOf_28 ?_
      refine lv_topi (fun x_ e_ => ?_)
      obtain rfl : 1 = x_ := by rw [e_]; decide
      refine lv_istore_n (lv' := [(1, .int 1), (2, .int 0), (0, .int p0)]) hx hb dX11_bytesOf_29 rfl hl (by decide) rfl (fun ls hl => ?_)
      refine lv_iinc (v := 1) (lv' := [(2, .int 1), (1, .int 1), (0, .int p0)]) hx hb dX11_bytesOf_30 hl (k := 1) rfl (by decide) (by decide) rfl (fun ls hl => ?_)
      refine lv_goto (tgt := 4) hx hb dX11_bytesOf_33 (by decide) ?_
      refine lv_iload_n hx hb dX11_bytesOf_4 rfl (lv_at hl 0 rfl) ?_
      refine lv_iconst (v := 4) hx hb dX11_bytesOf_5 (by decide) ?_
      refine lv_icmp_ge (tgt := 36) hx hb dX11_bytesOf_6 (by decide) (fun c_852 => ?_) (fun c_852 => ?_)
      · exact absurd c_852 (by decide)
      · refine lv_iload_n hx hb dX11_bytesOf_9 rfl (lv_at hl 1 rfl) ?_
        refine lv_iload_n hx hb dX11_bytesOf_10 rfl (lv_at hl 2 rfl) ?_
        refine lv_bipush (v := 8) hx hb dX11_bytesOf_11 (by decide) ?_
        refine lv_iload_n hx hb dX11_bytesOf_13 rfl (lv_at hl 0 rfl) ?_
        refine lv_imul hx hb dX11_bytesOf_14 ?_
        refine lv_topi (fun x_ e_ => ?_)
        obtain rfl : 8 = x_ := by rw [e_]; decide
        refine lv_ishr hx hb dX11_bytesOf_15 ?_
        refine lv_sipush (v := 255) hx hb dX11_bytesOf_16 (by decide) ?_
        refine lv_iand hx hb dX11_bytesOf_19 ?_
        refine lv_if_ne (tgt := 27) hx hb dX11_bytesOf_20 (by decide) (fun c_853 => ?_) (fun c_853 => ?_)
        · refine lv_iconst (v := 1) hx hb dX11_bytesOf_27 (by decide) ?_
          refine lv_iadd hx hb dX11_bytesOf_28 ?_
          refine lv_topi (fun x_ e_ => ?_)
          obtain rfl : 2 = x_ := by rw [e_]; decide
          refine lv_istore_n (lv' := [(1, .int 2), (2, .int 1), (0, .int p0)]) hx hb dX11_bytesOf_29 rfl hl (by decide) rfl (fun ls hl => ?_)
          refine lv_iinc (v := 2) (lv' := [(2, .int 2), (1, .int 2), (0, .int p0)]) hx hb dX11_bytesOf_30 hl (k := 1) rfl (by decide) (by decide) rfl (fun ls hl => ?_)
          refine lv_goto (tgt := 4) hx hb dX11_bytesOf_33 (by decide) ?_
          refine lv_iload_n hx hb dX11_bytesOf_4 rfl (lv_at hl 0 rfl) ?_
          refine lv_iconst (v := 4) hx hb dX11_bytesOf_5 (by decide) ?_
          refine lv_icmp_ge (tgt := 36) hx hb dX11_bytesOf_6 (by decide) (fun c_854 => ?_) (fun c_854 => ?_)
          · exact absurd c_854 (by decide)
          · refine lv_iload_n hx hb dX11_bytesOf_9 rfl (lv_at hl 1 rfl) ?_
            refine lv_iload_n hx hb dX11_bytesOf_10 rfl (lv_at hl 2 rfl) ?_
            refine lv_bipush (v := 8) hx hb dX11_bytesOf_11 (by decide) ?_
            refine lv_iload_n hx hb dX11_bytesOf_13 rfl (lv_at hl 0 rfl) ?_
            refine lv_imul hx hb dX11_bytesOf_14 ?_
            refine lv_topi (fun x_ e_ => ?_)
            obtain rfl : 16 = x_ := by rw [e_]; decide
            refine lv_ishr hx hb dX11_bytesOf_15 ?_
            refine lv_sipush (v := 255) hx hb dX11_bytesOf_16 (by decide) ?_
            refine lv_iand hx hb dX11_bytesOf_19 ?_
            refine lv_if_ne (tgt := 27) hx hb dX11_bytesOf_20 (by decide) (fun c_855 => ?_) (fun c_855 => ?_)
            · refine lv_iconst (v := 1) hx hb dX11_bytesOf_27 (by decide) ?_
              refine lv_iadd hx hb dX11_bytesOf_28 ?_
              refine lv_topi (fun x_ e_ => ?_)
              obtain rfl : 3 = x_ := by rw [e_]; decide
              refine lv_istore_n (lv' := [(1, .int 3), (2, .int 2), (0, .int p0)]) hx hb dX11_bytesOf_29 rfl hl (by decide) rfl (fun ls hl => ?_)
              refine lv_iinc (v := 3) (lv' := [(2, .int 3), (1, .int 3), (0, .int p0)]) hx hb dX11_bytesOf_30 hl (k := 1) rfl (by decide) (by decide) rfl (fun ls hl => ?_)
              refine lv_goto (tgt := 4) hx hb dX11_bytesOf_33 (by decide) ?_
              refine lv_iload_n hx hb dX11_bytesOf_4 rfl (lv_at hl 0 rfl) ?_
              refine lv_iconst (v := 4) hx hb dX11_bytesOf_5 (by decide) ?_
              refine lv_icmp_ge (tgt := 36) hx hb dX11_bytesOf_6 (by decide) (fun c_856 => ?_) (fun c_856 => ?_)
              · exact absurd c_856 (by decide)
              · refine lv_iload_n hx hb dX11_bytesOf_9 rfl (lv_at hl 1 rfl) ?_
                refine lv_iload_n hx hb dX11_bytesOf_10 rfl (lv_at hl 2 rfl) ?_
                refine lv_bipush (v := 8) hx hb dX11_bytesOf_11 (by decide) ?_
                refine lv_iload_n hx hb dX11_bytesOf_13 rfl (lv_at hl 0 rfl) ?_
                refine lv_imul hx hb dX11_bytesOf_14 ?_
                refine lv_topi (fun x_ e_ => ?_)
                obtain rfl : 24 = x_ := by rw [e_]; decide
                refine lv_ishr hx hb dX11_bytesOf_15 ?_
                refine lv_sipush (v := 255) hx hb dX11_bytesOf_16 (by decide) ?_
                refine lv_iand hx hb dX11_bytesOf_19 ?_
                refine lv_if_ne (tgt := 27) hx hb dX11_bytesOf_20 (by decide) (fun c_857 => ?_) (fun c_857 => ?_)
                · refine lv_iconst (v := 1) hx hb dX11_bytesOf_27 (by decide) ?_
                  refine lv_iadd hx hb dX11_bytesOf_28 ?_
                  refine lv_topi (fun x_ e_ => ?_)
                  obtain rfl : 4 = x_ := by rw [e_]; decide
                  refine lv_istore_n (lv' := [(1, .int 4), (2, .int 3), (0, .int p0)]) hx hb dX11_bytesOf_29 rfl hl (by decide) rfl (fun ls hl => ?_)
                  refine lv_iinc (v := 4) (lv' := [(2, .int 4), (1, .int 4), (0, .int p0)]) hx hb dX11_bytesOf_30 hl (k := 1) rfl (by decide) (by decide) rfl (fun ls hl => ?_)
                  refine lv_goto (tgt := 4) hx hb dX11_bytesOf_33 (by decide) ?_
                  refine lv_iload_n hx hb dX11_bytesOf_4 rfl (lv_at hl 0 rfl) ?_
                  refine lv_iconst (v := 4) hx hb dX11_bytesOf_5 (by decide) ?_
                  refine lv_icmp_ge (tgt := 36) hx hb dX11_bytesOf_6 (by decide) (fun c_858 => ?_) (fun c_858 => ?_)
                  · refine lv_iload_n hx hb dX11_bytesOf_36 rfl (lv_at hl 1 rfl) ?_
                    exact q_iret C h hr (⟨by unfold nzM nz1 sbt; rw [if_neg c_851, if_neg c_853, if_neg c_855, if_neg c_857]; rfl, rfl⟩) (Nat.le_of_ble_eq_true rfl) (Nat.le_of_ble_eq_true rfl) dX11_bytesOf_37
                  · exact absurd c_858 (by decide)
                · refine lv_iconst (v := 0) hx hb dX11_bytesOf_23 (by decide) ?_
                  refine lv_goto (tgt := 28) hx hb dX11_bytesOf_24 (by decide) ?_
                  refine lv_iadd hx hb dX11_bytesOf_28 ?_
                  refine lv_topi (fun x_ e_ => ?_)
                  obtain rfl : 3 = x_ := by rw [e_]; decide
                  refine lv_istore_n (lv' := [(1, .int 3), (2, .int 3), (0, .int p0)]) hx hb dX11_bytesOf_29 rfl hl (by decide) rfl (fun ls hl => ?_)
                  refine lv_iinc (v := 4) (lv' := [(2, .int 4), (1, .int 3), (0, .int p0)]) hx hb dX11_bytesOf_30 hl (k := 1) rfl (by decide) (by decide) rfl (fun ls hl => ?_)
                  refine lv_goto (tgt := 4) hx hb dX11_bytesOf_33 (by decide) ?_
                  refine lv_iload_n hx hb dX11_bytesOf_4 rfl (lv_at hl 0 rfl) ?_
                  refine lv_iconst (v := 4) hx hb dX11_bytesOf_5 (by decide) ?_
                  refine lv_icmp_ge (tgt := 36) hx hb dX11_bytesOf_6 (by decide) (fun c_859 => ?_) (fun c_859 => ?_)
                  · refine lv_iload_n hx hb dX11_bytesOf_36 rfl (lv_at hl 1 rfl) ?_
                    exact q_iret C h hr (⟨by unfold nzM nz1 sbt; rw [if_neg c_851, if_neg c_853, if_neg c_855, if_pos c_857]; rfl, rfl⟩) (Nat.le_of_ble_eq_true rfl) (Nat.le_of_ble_eq_true rfl) dX11_bytesOf_37
                  · exact absurd c_859 (by decide)
            · refine lv_iconst (v := 0) hx hb dX11_bytesOf_23 (by decide) ?_
              refine lv_goto (tgt := 28) hx hb dX11_bytesOf_24 (by decide) ?_
              refine lv_iadd hx hb dX11_bytesOf_28 ?_
              refine lv_topi (fun x_ e_ => ?_)
              obtain rfl : 2 = x_ := by rw [e_]; decide
              refine lv_istore_n (lv' := [(1, .int 2), (2, .int 2), (0, .int p0)]) hx hb dX11_bytesOf_29 rfl hl (by decide) rfl (fun ls hl => ?_)
              refine lv_iinc (v := 3) (lv' := [(2, .int 3), (1, .int 2), (0, .int p0)]) hx hb dX11_bytesOf_30 hl (k := 1) rfl (by decide) (by decide) rfl (fun ls hl => ?_)
              refine lv_goto (tgt := 4) hx hb dX11_bytesOf_33 (by decide) ?_
              refine lv_iload_n hx hb dX11_bytesOf_4 rfl (lv_at hl 0 rfl) ?_
              refine lv_iconst (v := 4) hx hb dX11_bytesOf_5 (by decide) ?_
              refine lv_icmp_ge (tgt := 36) hx hb dX11_bytesOf_6 (by decide) (fun c_860 => ?_) (fun c_860 => ?_)
              · exact absurd c_860 (by decide)
              · refine lv_iload_n hx hb dX11_bytesOf_9 rfl (lv_at hl 1 rfl) ?_
                refine lv_iload_n hx hb dX11_bytesOf_10 rfl (lv_at hl 2 rfl) ?_
                refine lv_bipush (v := 8) hx hb dX11_bytesOf_11 (by decide) ?_
                refine lv_iload_n hx hb dX11_bytesOf_13 rfl (lv_at hl 0 rfl) ?_
                refine lv_imul hx hb dX11_bytesOf_14 ?_
                refine lv_topi (fun x_ e_ => ?_)
                obtain rfl : 24 = x_ := by rw [e_]; decide
                refine lv_ishr hx hb dX11_bytesOf_15 ?_
                refine lv_sipush (v := 255) hx hb dX11_bytesOf_16 (by decide) ?_
                refine lv_iand hx hb dX11_bytesOf_19 ?_
                refine lv_if_ne (tgt := 27) hx hb dX11_bytesOf_20 (by decide) (fun c_861 => ?_) (fun c_861 => ?_)
                · refine lv_iconst (v := 1) hx hb dX11_bytesOf_27 (by decide) ?_
                  refine lv_iadd hx hb dX11_bytesOf_28 ?_
                  refine lv_topi (fun x_ e_ => ?_)
                  obtain rfl : 3 = x_ := by rw [e_]; decide
                  refine lv_istore_n (lv' := [(1, .int 3), (2, .int 3), (0, .int p0)]) hx hb dX11_bytesOf_29 rfl hl (by decide) rfl (fun ls hl => ?_)
                  refine lv_iinc (v := 4) (lv' := [(2, .int 4), (1, .int 3), (0, .int p0)]) hx hb dX11_bytesOf_30 hl (k := 1) rfl (by decide) (by decide) rfl (fun ls hl => ?_)
                  refine lv_goto (tgt := 4) hx hb dX11_bytesOf_33 (by decide) ?_
                  refine lv_iload_n hx hb dX11_bytesOf_4 rfl (lv_at hl 0 rfl) ?_
                  refine lv_iconst (v := 4) hx hb dX11_bytesOf_5 (by decide) ?_
                  refine lv_icmp_ge (tgt := 36) hx hb dX11_bytesOf_6 (by decide) (fun c_862 => ?_) (fun c_862 => ?_)
                  · refine lv_iload_n hx hb dX11_bytesOf_36 rfl (lv_at hl 1 rfl) ?_
                    exact q_iret C h hr (⟨by unfold nzM nz1 sbt; rw [if_neg c_851, if_neg c_853, if_pos c_855, if_neg c_861]; rfl, rfl⟩) (Nat.le_of_ble_eq_true rfl) (Nat.le_of_ble_eq_true rfl) dX11_bytesOf_37
                  · exact absurd c_862 (by decide)
                · refine lv_iconst (v := 0) hx hb dX11_bytesOf_23 (by decide) ?_
                  refine lv_goto (tgt := 28) hx hb dX11_bytesOf_24 (by decide) ?_
                  refine lv_iadd hx hb dX11_bytesOf_28 ?_
                  refine lv_topi (fun x_ e_ => ?_)
                  obtain rfl : 2 = x_ := by rw [e_]; decide
                  refine lv_istore_n (lv' := [(1, .int 2), (2, .int 3), (0, .int p0)]) hx hb dX11_bytesOf_29 rfl hl (by decide) rfl (fun ls hl => ?_)
                  refine lv_iinc (v := 4) (lv' := [(2, .int 4), (1, .int 2), (0, .int p0)]) hx hb dX11_bytesOf_30 hl (k := 1) rfl (by decide) (by decide) rfl (fun ls hl => ?_)
                  refine lv_goto (tgt := 4) hx hb dX11_bytesOf_33 (by decide) ?_
                  refine lv_iload_n hx hb dX11_bytesOf_4 rfl (lv_at hl 0 rfl) ?_
                  refine lv_iconst (v := 4) hx hb dX11_bytesOf_5 (by decide) ?_
                  refine lv_icmp_ge (tgt := 36) hx hb dX11_bytesOf_6 (by decide) (fun c_863 => ?_) (fun c_863 => ?_)
                  · refine lv_iload_n hx hb dX11_bytesOf_36 rfl (lv_at hl 1 rfl) ?_
                    exact q_iret C h hr (⟨by unfold nzM nz1 sbt; rw [if_neg c_851, if_neg c_853, if_pos c_855, if_pos c_861]; rfl, rfl⟩) (Nat.le_of_ble_eq_true rfl) (Nat.le_of_ble_eq_true rfl) dX11_bytesOf_37
                  · exact absurd c_863 (by decide)
        · refine lv_iconst (v := 0) hx hb dX11_bytesOf_23 (by decide) ?_
          refine lv_goto (tgt := 28) hx hb dX11_bytesOf_24 (by decide) ?_
          refine lv_iadd hx hb dX11_bytesOf_28 ?_
          refine lv_topi (fun x_ e_ => ?_)
          obtain rfl : 1 = x_ := by rw [e_]; decide
          refine lv_istore_n (lv' := [(1, .int 1), (2, .int 1), (0, .int p0)]) hx hb dX11_bytesOf_29 rfl hl (by decide) rfl (fun ls hl => ?_)
          refine lv_iinc (v := 2) (lv' := [(2, .int 2), (1, .int 1), (0, .int p0)]) hx hb dX11_bytesOf_30 hl (k := 1) rfl (by decide) (by decide) rfl (fun ls hl => ?_)
          refine lv_goto (tgt := 4) hx hb dX11_bytesOf_33 (by decide) ?_
          refine lv_iload_n hx hb dX11_bytesOf_4 rfl (lv_at hl 0 rfl) ?_
          refine lv_iconst (v := 4) hx hb dX11_bytesOf_5 (by decide) ?_
          refine lv_icmp_ge (tgt := 36) hx hb dX11_bytesOf_6 (by decide) (fun c_864 => ?_) (fun c_864 => ?_)
          · exact absurd c_864 (by decide)
          · refine lv_iload_n hx hb dX11_bytesOf_9 rfl (lv_at hl 1 rfl) ?_
            refine lv_iload_n hx hb dX11_bytesOf_10 rfl (lv_at hl 2 rfl) ?_
            refine lv_bipush (v := 8) hx hb dX11_bytesOf_11 (by decide) ?_
            refine lv_iload_n hx hb dX11_bytesOf_13 rfl (lv_at hl 0 rfl) ?_
            refine lv_imul hx hb dX11_bytesOf_14 ?_
            refine lv_topi (fun x_ e_ => ?_)
            obtain rfl : 16 = x_ := by rw [e_]; decide
            refine lv_ishr hx hb dX11_bytesOf_15 ?_
            refine lv_sipush (v := 255) hx hb dX11_bytesOf_16 (by decide) ?_
            refine lv_iand hx hb dX11_bytesOf_19 ?_
            refine lv_if_ne (tgt := 27) hx hb dX11_bytesOf_20 (by decide) (fun c_865 => ?_) (fun c_865 => ?_)
            · refine lv_iconst (v := 1) hx hb dX11_bytesOf_27 (by decide) ?_
              refine lv_iadd hx hb dX11_bytesOf_28 ?_
              refine lv_topi (fun x_ e_ => ?_)
              obtain rfl : 2 = x_ := by rw [e_]; decide
              refine lv_istore_n (lv' := [(1, .int 2), (2, .int 2), (0, .int p0)]) hx hb dX11_bytesOf_29 rfl hl (by decide) rfl (fun ls hl => ?_)
              refine lv_iinc (v := 3) (lv' := [(2, .int 3), (1, .int 2), (0, .int p0)]) hx hb dX11_bytesOf_30 hl (k := 1) rfl (by decide) (by decide) rfl (fun ls hl => ?_)
              refine lv_goto (tgt := 4) hx hb dX11_bytesOf_33 (by decide) ?_
              refine lv_iload_n hx hb dX11_bytesOf_4 rfl (lv_at hl 0 rfl) ?_
              refine lv_iconst (v := 4) hx hb dX11_bytesOf_5 (by decide) ?_
              refine lv_icmp_ge (tgt := 36) hx hb dX11_bytesOf_6 (by decide) (fun c_866 => ?_) (fun c_866 => ?_)
              · exact absurd c_866 (by decide)
              · refine lv_iload_n hx hb dX11_bytesOf_9 rfl (lv_at hl 1 rfl) ?_
                refine lv_iload_n hx hb dX11_bytesOf_10 rfl (lv_at hl 2 rfl) ?_
                refine lv_bipush (v := 8) hx hb dX11_bytesOf_11 (by decide) ?_
                refine lv_iload_n hx hb dX11_bytesOf_13 rfl (lv_at hl 0 rfl) ?_
                refine lv_imul hx hb dX11_bytesOf_14 ?_
                refine lv_topi (fun x_ e_ => ?_)
                obtain rfl : 24 = x_ := by rw [e_]; decide
                refine lv_ishr hx hb dX11_bytesOf_15 ?_
                refine lv_sipush (v := 255) hx hb dX11_bytesOf_16 (by decide) ?_
                refine lv_iand hx hb dX11_bytesOf_19 ?_
                refine lv_if_ne (tgt := 27) hx hb dX11_bytesOf_20 (by decide) (fun c_867 => ?_) (fun c_867 => ?_)
                · refine lv_iconst (v := 1) hx hb dX11_bytesOf_27 (by decide) ?_
                  refine lv_iadd hx hb dX11_bytesOf_28 ?_
                  refine lv_topi (fun x_ e_ => ?_)
                  obtain rfl : 3 = x_ := by rw [e_]; decide
                  refine lv_istore_n (lv' := [(1, .int 3), (2, .int 3), (0, .int p0)]) hx hb dX11_bytesOf_29 rfl hl (by decide) rfl (fun ls hl => ?_)
                  refine lv_iinc (v := 4) (lv' := [(2, .int 4), (1, .int 3), (0, .int p0)]) hx hb dX11_bytesOf_30 hl (k := 1) rfl (by decide) (by decide) rfl (fun ls hl => ?_)
                  refine lv_goto (tgt := 4) hx hb dX11_bytesOf_33 (by decide) ?_
                  refine lv_iload_n hx hb dX11_bytesOf_4 rfl (lv_at hl 0 rfl) ?_
                  refine lv_iconst (v := 4) hx hb dX11_bytesOf_5 (by decide) ?_
                  refine lv_icmp_ge (tgt := 36) hx hb dX11_bytesOf_6 (by decide) (fun c_868 => ?_) (fun c_868 => ?_)
                  · refine lv_iload_n hx hb dX11_bytesOf_36 rfl (lv_at hl 1 rfl) ?_
                    exact q_iret C h hr (⟨by unfold nzM nz1 sbt; rw [if_neg c_851, if_pos c_853, if_neg c_865, if_neg c_867]; rfl, rfl⟩) (Nat.le_of_ble_eq_true rfl) (Nat.le_of_ble_eq_true rfl) dX11_bytesOf_37
                  · exact absurd c_868 (by decide)
                · refine lv_iconst (v := 0) hx hb dX11_bytesOf_23 (by decide) ?_
                  refine lv_goto (tgt := 28) hx hb dX11_bytesOf_24 (by decide) ?_
                  refine lv_iadd hx hb dX11_bytesOf_28 ?_
                  refine lv_topi (fun x_ e_ => ?_)
                  obtain rfl : 2 = x_ := by rw [e_]; decide
                  refine lv_istore_n (lv' := [(1, .int 2), (2, .int 3), (0, .int p0)]) hx hb dX11_bytesOf_29 rfl hl (by decide) rfl (fun ls hl => ?_)
                  refine lv_iinc (v := 4) (lv' := [(2, .int 4), (1, .int 2), (0, .int p0)]) hx hb dX11_bytesOf_30 hl (k := 1) rfl (by decide) (by decide) rfl (fun ls hl => ?_)
                  refine lv_goto (tgt := 4) hx hb dX11_bytesOf_33 (by decide) ?_
                  refine lv_iload_n hx hb dX11_bytesOf_4 rfl (lv_at hl 0 rfl) ?_
                  refine lv_iconst (v := 4) hx hb dX11_bytesOf_5 (by decide) ?_
                  refine lv_icmp_ge (tgt := 36) hx hb dX11_bytesOf_6 (by decide) (fun c_869 => ?_) (fun c_869 => ?_)
                  · refine lv_iload_n hx hb dX11_bytesOf_36 rfl (lv_at hl 1 rfl) ?_
                    exact q_iret C h hr (⟨by unfold nzM nz1 sbt; rw [if_neg c_851, if_pos c_853, if_neg c_865, if_pos c_867]; rfl, rfl⟩) (Nat.le_of_ble_eq_true rfl) (Nat.le_of_ble_eq_true rfl) dX11_bytesOf_37
                  · exact absurd c_869 (by decide)
            · refine lv_iconst (v := 0) hx hb dX11_bytesOf_23 (by decide) ?_
              refine lv_goto (tgt := 28) hx hb dX11_bytesOf_24 (by decide) ?_
              refine lv_iadd hx hb dX11_bytesOf_28 ?_
              refine lv_topi (fun x_ e_ => ?_)
              obtain rfl : 1 = x_ := by rw [e_]; decide
              refine lv_istore_n (lv' := [(1, .int 1), (2, .int 2), (0, .int p0)]) hx hb dX11_bytesOf_29 rfl hl (by decide) rfl (fun ls hl => ?_)
              refine lv_iinc (v := 3) (lv' := [(2, .int 3), (1, .int 1), (0, .int p0)]) hx hb dX11_bytesOf_30 hl (k := 1) rfl (by decide) (by decide) rfl (fun ls hl => ?_)
              refine lv_goto (tgt := 4) hx hb dX11_bytesOf_33 (by decide) ?_
              refine lv_iload_n hx hb dX11_bytesOf_4 rfl (lv_at hl 0 rfl) ?_
              refine lv_iconst (v := 4) hx hb dX11_bytesOf_5 (by decide) ?_
              refine lv_icmp_ge (tgt := 36) hx hb dX11_bytesOf_6 (by decide) (fun c_870 => ?_) (fun c_870 => ?_)
              · exact absurd c_870 (by decide)
              · refine lv_iload_n hx hb dX11_bytesOf_9 rfl (lv_at hl 1 rfl) ?_
                refine lv_iload_n hx hb dX11_bytesOf_10 rfl (lv_at hl 2 rfl) ?_
                refine lv_bipush (v := 8) hx hb dX11_bytesOf_11 (by decide) ?_
                refine lv_iload_n hx hb dX11_bytesOf_13 rfl (lv_at hl 0 rfl) ?_
                refine lv_imul hx hb dX11_bytesOf_14 ?_
                refine lv_topi (fun x_ e_ => ?_)
                obtain rfl : 24 = x_ := by rw [e_]; decide
                refine lv_ishr hx hb dX11_bytesOf_15 ?_
                refine lv_sipush (v := 255) hx hb dX11_bytesOf_16 (by decide) ?_
                refine lv_iand hx hb dX11_bytesOf_19 ?_
                refine lv_if_ne (tgt := 27) hx hb dX11_bytesOf_20 (by decide) (fun c_871 => ?_) (fun c_871 => ?_)
                · refine lv_iconst (v := 1) hx hb dX11_bytesOf_27 (by decide) ?_
                  refine lv_iadd hx hb dX11_bytesOf_28 ?_
                  refine lv_topi (fun x_ e_ => ?_)
                  obtain rfl : 2 = x_ := by rw [e_]; decide
                  refine lv_istore_n (lv' := [(1, .int 2), (2, .int 3), (0, .int p0)]) hx hb dX11_bytesOf_29 rfl hl (by decide) rfl (fun ls hl => ?_)
                  refine lv_iinc (v := 4) (lv' := [(2, .int 4), (1, .int 2), (0, .int p0)]) hx hb dX11_bytesOf_30 hl (k := 1) rfl (by decide) (by decide) rfl (fun ls hl => ?_)
                  refine lv_goto (tgt := 4) hx hb dX11_bytesOf_33 (by decide) ?_
                  refine lv_iload_n hx hb dX11_bytesOf_4 rfl (lv_at hl 0 rfl) ?_
                  refine lv_iconst (v := 4) hx hb dX11_bytesOf_5 (by decide) ?_
                  refine lv_icmp_ge (tgt := 36) hx hb dX11_bytesOf_6 (by decide) (fun c_872 => ?_) (fun c_872 => ?_)
                  · refine lv_iload_n hx hb dX11_bytesOf_36 rfl (lv_at hl 1 rfl) ?_
                    exact q_iret C h hr (⟨by unfold nzM nz1 sbt; rw [if_neg c_851, if_pos c_853, if_pos c_865, if_neg c_871]; rfl, rfl⟩) (Nat.le_of_ble_eq_true rfl) (Nat.le_of_ble_eq_true rfl) dX11_bytesOf_37
                  · exact absurd c_872 (by decide)
                · refine lv_iconst (v := 0) hx hb dX11_bytesOf_23 (by decide) ?_
                  refine lv_goto (tgt := 28) hx hb dX11_bytesOf_24 (by decide) ?_
                  refine lv_iadd hx hb dX11_bytesOf_28 ?_
                  refine lv_topi (fun x_ e_ => ?_)
                  obtain rfl : 1 = x_ := by rw [e_]; decide
                  refine lv_istore_n (lv' := [(1, .int 1), (2, .int 3), (0, .int p0)]) hx hb dX11_bytesOf_29 rfl hl (by decide) rfl (fun ls hl => ?_)
                  refine lv_iinc (v := 4) (lv' := [(2, .int 4), (1, .int 1), (0, .int p0)]) hx hb dX11_bytesOf_30 hl (k := 1) rfl (by decide) (by decide) rfl (fun ls hl => ?_)
                  refine lv_goto (tgt := 4) hx hb dX11_bytesOf_33 (by decide) ?_
                  refine lv_iload_n hx hb dX11_bytesOf_4 rfl (lv_at hl 0 rfl) ?_
                  refine lv_iconst (v := 4) hx hb dX11_bytesOf_5 (by decide) ?_
                  refine lv_icmp_ge (tgt := 36) hx hb dX11_bytesOf_6 (by decide) (fun c_873 => ?_) (fun c_873 => ?_)
                  · refine lv_iload_n hx hb dX11_bytesOf_36 rfl (lv_at hl 1 rfl) ?_
                    exact q_iret C h hr (⟨by unfold nzM nz1 sbt; rw [if_neg c_851, if_pos c_853, if_pos c_865, if_pos c_871]; rfl, rfl⟩) (Nat.le_of_ble_eq_true rfl) (Nat.le_of_ble_eq_true rfl) dX11_bytesOf_37
                  · exact absurd c_873 (by decide)
    · refine lv_iconst (v := 0) hx hb dX11_bytesOf_23 (by decide) ?_
      refine lv_goto (tgt := 28) hx hb dX11_bytesOf_24 (by decide) ?_
      refine lv_iadd hx hb dX11_bytesOf_28 ?_
      refine lv_topi (fun x_ e_ => ?_)
      obtain rfl : 0 = x_ := by rw [e_]; decide
      refine lv_istore_n (lv' := [(1, .int 0), (2, .int 0), (0, .int p0)]) hx hb dX11_bytesOf_29 rfl hl (by decide) rfl (fun ls hl => ?_)
      refine lv_iinc (v := 1) (lv' := [(2, .int 1), (1, .int 0), (0, .int p0)]) hx hb dX11_bytesOf_30 hl (k := 1) rfl (by decide) (by decide) rfl (fun ls hl => ?_)
      refine lv_goto (tgt := 4) hx hb dX11_bytesOf_33 (by decide) ?_
      refine lv_iload_n hx hb dX11_bytesOf_4 rfl (lv_at hl 0 rfl) ?_
      refine lv_iconst (v := 4) hx hb dX11_bytesOf_5 (by decide) ?_
      refine lv_icmp_ge (tgt := 36) hx hb dX11_bytesOf_6 (by decide) (fun c_874 => ?_) (fun c_874 => ?_)
      · exact absurd c_874 (by decide)
      · refine lv_iload_n hx hb dX11_bytesOf_9 rfl (lv_at hl 1 rfl) ?_
        refine lv_iload_n hx hb dX11_bytesOf_10 rfl (lv_at hl 2 rfl) ?_
        refine lv_bipush (v := 8) hx hb dX11_bytesOf_11 (by decide) ?_
        refine lv_iload_n hx hb dX11_bytesOf_13 rfl (lv_at hl 0 rfl) ?_
        refine lv_imul hx hb dX11_bytesOf_14 ?_
        refine lv_topi (fun x_ e_ => ?_)
        obtain rfl : 8 = x_ := by rw [e_]; decide
        refine lv_ishr hx hb dX11_bytesOf_15 ?_
        refine lv_sipush (v := 255) hx hb dX11_bytesOf_16 (by decide) ?_
        refine lv_iand hx hb dX11_bytesOf_19 ?_
        refine lv_if_ne (tgt := 27) hx hb dX11_bytesOf_20 (by decide) (fun c_875 => ?_) (fun c_875 => ?_)
        · refine lv_iconst (v := 1) hx hb dX11_bytesOf_27 (by decide) ?_
          refine lv_iadd hx hb dX11_bytesOf_28 ?_
          refine lv_topi (fun x_ e_ => ?_)
          obtain rfl : 1 = x_ := by rw [e_]; decide
          refine lv_istore_n (lv' := [(1, .int 1), (2, .int 1), (0, .int p0)]) hx hb dX11_bytesOf_29 rfl hl (by decide) rfl (fun ls hl => ?_)
          refine lv_iinc (v := 2) (lv' := [(2, .int 2), (1, .int 1), (0, .int p0)]) hx hb dX11_bytesOf_30 hl (k := 1) rfl (by decide) (by decide) rfl (fun ls hl => ?_)
          refine lv_goto (tgt := 4) hx hb dX11_bytesOf_33 (by decide) ?_
          refine lv_iload_n hx hb dX11_bytesOf_4 rfl (lv_at hl 0 rfl) ?_
          refine lv_iconst (v := 4) hx hb dX11_bytesOf_5 (by decide) ?_
          refine lv_icmp_ge (tgt := 36) hx hb dX11_bytesOf_6 (by decide) (fun c_876 => ?_) (fun c_876 => ?_)
          · exact absurd c_876 (by decide)
          · refine lv_iload_n hx hb dX11_bytesOf_9 rfl (lv_at hl 1 rfl) ?_
            refine lv_iload_n hx hb dX11_bytesOf_10 rfl (lv_at hl 2 rfl) ?_
            refine lv_bipush (v := 8) hx hb dX11_bytesOf_11 (by decide) ?_
            refine lv_iload_n hx hb dX11_bytesOf_13 rfl (lv_at hl 0 rfl) ?_
            refine lv_imul hx hb dX11_bytesOf_14 ?_
            refine lv_topi (fun x_ e_ => ?_)
            obtain rfl : 16 = x_ := by rw [e_]; decide
            refine lv_ishr hx hb dX11_bytesOf_15 ?_
            refine lv_sipush (v := 255) hx hb dX11_bytesOf_16 (by decide) ?_
            refine lv_iand hx hb dX11_bytesOf_19 ?_
            refine lv_if_ne (tgt := 27) hx hb dX11_bytesOf_20 (by decide) (fun c_877 => ?_) (fun c_877 => ?_)
            · refine lv_iconst (v := 1) hx hb dX11_bytesOf_27 (by decide) ?_
              refine lv_iadd hx hb dX11_bytesOf_28 ?_
              refine lv_topi (fun x_ e_ => ?_)
              obtain rfl : 2 = x_ := by rw [e_]; decide
              refine lv_istore_n (lv' := [(1, .int 2), (2, .int 2), (0, .int p0)]) hx hb dX11_bytesOf_29 rfl hl (by decide) rfl (fun ls hl => ?_)
              refine lv_iinc (v := 3) (lv' := [(2, .int 3), (1, .int 2), (0, .int p0)]) hx hb dX11_bytesOf_30 hl (k := 1) rfl (by decide) (by decide) rfl (fun ls hl => ?_)
              refine lv_goto (tgt := 4) hx hb dX11_bytesOf_33 (by decide) ?_
              refine lv_iload_n hx hb dX11_bytesOf_4 rfl (lv_at hl 0 rfl) ?_
              refine lv_iconst (v := 4) hx hb dX11_bytesOf_5 (by decide) ?_
              refine lv_icmp_ge (tgt := 36) hx hb dX11_bytesOf_6 (by decide) (fun c_878 => ?_) (fun c_878 => ?_)
              · exact absurd c_878 (by decide)
              · refine lv_iload_n hx hb dX11_bytesOf_9 rfl (lv_at hl 1 rfl) ?_
                refine lv_iload_n hx hb dX11_bytesOf_10 rfl (lv_at hl 2 rfl) ?_
                refine lv_bipush (v := 8) hx hb dX11_bytesOf_11 (by decide) ?_
                refine lv_iload_n hx hb dX11_bytesOf_13 rfl (lv_at hl 0 rfl) ?_
                refine lv_imul hx hb dX11_bytesOf_14 ?_
                refine lv_topi (fun x_ e_ => ?_)
                obtain rfl : 24 = x_ := by rw [e_]; decide
                refine lv_ishr hx hb dX11_bytesOf_15 ?_
                refine lv_sipush (v := 255) hx hb dX11_bytesOf_16 (by decide) ?_
                refine lv_iand hx hb dX11_bytesOf_19 ?_
                refine lv_if_ne (tgt := 27) hx hb dX11_bytesOf_20 (by decide) (fun c_879 => ?_) (fun c_879 => ?_)
                · refine lv_iconst (v := 1) hx hb dX11_bytesOf_27 (by decide) ?_
                  refine lv_iadd hx hb dX11_bytesOf_28 ?_
                  refine lv_topi (fun x_ e_ => ?_)
                  obtain rfl : 3 = x_ := by rw [e_]; decide
                  refine lv_istore_n (lv' := [(1, .int 3), (2, .int 3), (0, .int p0)]) hx hb dX11_bytesOf_29 rfl hl (by decide) rfl (fun ls hl => ?_)
                  refine lv_iinc (v := 4) (lv' := [(2, .int 4), (1, .int 3), (0, .int p0)]) hx hb dX11_bytesOf_30 hl (k := 1) rfl (by decide) (by decide) rfl (fun ls hl => ?_)
                  refine lv_goto (tgt := 4) hx hb dX11_bytesOf_33 (by decide) ?_
                  refine lv_iload_n hx hb dX11_bytesOf_4 rfl (lv_at hl 0 rfl) ?_
                  refine lv_iconst (v := 4) hx hb dX11_bytesOf_5 (by decide) ?_
                  refine lv_icmp_ge (tgt := 36) hx hb dX11_bytesOf_6 (by decide) (fun c_880 => ?_) (fun c_880 => ?_)
                  · refine lv_iload_n hx hb dX11_bytesOf_36 rfl (lv_at hl 1 rfl) ?_
                    exact q_iret C h hr (⟨by unfold nzM nz1 sbt; rw [if_pos c_851, if_neg c_875, if_neg c_877, if_neg c_879]; rfl, rfl⟩) (Nat.le_of_ble_eq_true rfl) (Nat.le_of_ble_eq_true rfl) dX11_bytesOf_37
                  · exact absurd c_880 (by decide)
                · refine lv_iconst (v := 0) hx hb dX11_bytesOf_23 (by decide) ?_
                  refine lv_goto (tgt := 28) hx hb dX11_bytesOf_24 (by decide) ?_
                  refine lv_iadd hx hb dX11_bytesOf_28 ?_
                  refine lv_topi (fun x_ e_ => ?_)
                  obtain rfl : 2 = x_ := by rw [e_]; decide
                  refine lv_istore_n (lv' := [(1, .int 2), (2, .int 3), (0, .int p0)]) hx hb dX11_bytesOf_29 rfl hl (by decide) rfl (fun ls hl => ?_)
                  refine lv_iinc (v := 4) (lv' := [(2, .int 4), (1, .int 2), (0, .int p0)]) hx hb dX11_bytesOf_30 hl (k := 1) rfl (by decide) (by decide) rfl (fun ls hl => ?_)
                  refine lv_goto (tgt := 4) hx hb dX11_bytesOf_33 (by decide) ?_
                  refine lv_iload_n hx hb dX11_bytesOf_4 rfl (lv_at hl 0 rfl) ?_
                  refine lv_iconst (v := 4) hx hb dX11_bytesOf_5 (by decide) ?_
                  refine lv_icmp_ge (tgt := 36) hx hb dX11_bytesOf_6 (by decide) (fun c_881 => ?_) (fun c_881 => ?_)
                  · refine lv_iload_n hx hb dX11_bytesOf_36 rfl (lv_at hl 1 rfl) ?_
                    exact q_iret C h hr (⟨by unfold nzM nz1 sbt; rw [if_pos c_851, if_neg c_875, if_neg c_877, if_pos c_879]; rfl, rfl⟩) (Nat.le_of_ble_eq_true rfl) (Nat.le_of_ble_eq_true rfl) dX11_bytesOf_37
                  · exact absurd c_881 (by decide)
            · refine lv_iconst (v := 0) hx hb dX11_bytesOf_23 (by decide) ?_
              refine lv_goto (tgt := 28) hx hb dX11_bytesOf_24 (by decide) ?_
              refine lv_iadd hx hb dX11_bytesOf_28 ?_
              refine lv_topi (fun x_ e_ => ?_)
              obtain rfl : 1 = x_ := by rw [e_]; decide
              refine lv_istore_n (lv' := [(1, .int 1), (2, .int 2), (0, .int p0)]) hx hb dX11_bytesOf_29 rfl hl (by decide) rfl (fun ls hl => ?_)
              refine lv_iinc (v := 3) (lv' := [(2, .int 3), (1, .int 1), (0, .int p0)]) hx hb dX11_bytesOf_30 hl (k := 1) rfl (by decide) (by decide) rfl (fun ls hl => ?_)
              refine lv_goto (tgt := 4) hx hb dX11_bytesOf_33 (by decide) ?_
              refine lv_iload_n hx hb dX11_bytesOf_4 rfl (lv_at hl 0 rfl) ?_
              refine lv_iconst (v := 4) hx hb dX11_bytesOf_5 (by decide) ?_
              refine lv_icmp_ge (tgt := 36) hx hb dX11_bytesOf_6 (by decide) (fun c_882 => ?_) (fun c_882 => ?_)
              · exact absurd c_882 (by decide)
              · refine lv_iload_n hx hb dX11_bytesOf_9 rfl (lv_at hl 1 rfl) ?_
                refine lv_iload_n hx hb dX11_bytesOf_10 rfl (lv_at hl 2 rfl) ?_
                refine lv_bipush (v := 8) hx hb dX11_bytesOf_11 (by decide) ?_
                refine lv_iload_n hx hb dX11_bytesOf_13 rfl (lv_at hl 0 rfl) ?_
                refine lv_imul hx hb dX11_bytesOf_14 ?_
                refine lv_topi (fun x_ e_ => ?_)
                obtain rfl : 24 = x_ := by rw [e_]; decide
                refine lv_ishr hx hb dX11_bytesOf_15 ?_
                refine lv_sipush (v := 255) hx hb dX11_bytesOf_16 (by decide) ?_
                refine lv_iand hx hb dX11_bytesOf_19 ?_
                refine lv_if_ne (tgt := 27) hx hb dX11_bytesOf_20 (by decide) (fun c_883 => ?_) (fun c_883 => ?_)
                · refine lv_iconst (v := 1) hx hb dX11_bytesOf_27 (by decide) ?_
                  refine lv_iadd hx hb dX11_bytesOf_28 ?_
                  refine lv_topi (fun x_ e_ => ?_)
                  obtain rfl : 2 = x_ := by rw [e_]; decide
                  refine lv_istore_n (lv' := [(1, .int 2), (2, .int 3), (0, .int p0)]) hx hb dX11_bytesOf_29 rfl hl (by decide) rfl (fun ls hl => ?_)
                  refine lv_iinc (v := 4) (lv' := [(2, .int 4), (1, .int 2), (0, .int p0)]) hx hb dX11_bytesOf_30 hl (k := 1) rfl (by decide) (by decide) rfl (fun ls hl => ?_)
                  refine lv_goto (tgt := 4) hx hb dX11_bytesOf_33 (by decide) ?_
                  refine lv_iload_n hx hb dX11_bytesOf_4 rfl (lv_at hl 0 rfl) ?_
                  refine lv_iconst (v := 4) hx hb dX11_bytesOf_5 (by decide) ?_
                  refine lv_icmp_ge (tgt := 36) hx hb dX11_bytesOf_6 (by decide) (fun c_884 => ?_) (fun c_884 => ?_)
                  · refine lv_iload_n hx hb dX11_bytesOf_36 rfl (lv_at hl 1 rfl) ?_
                    exact q_iret C h hr (⟨by unfold nzM nz1 sbt; rw [if_pos c_851, if_neg c_875, if_pos c_877, if_neg c_883]; rfl, rfl⟩) (Nat.le_of_ble_eq_true rfl) (Nat.le_of_ble_eq_true rfl) dX11_bytesOf_37
                  · exact absurd c_884 (by decide)
                · refine lv_iconst (v := 0) hx hb dX11_bytesOf_23 (by decide) ?_
                  refine lv_goto (tgt := 28) hx hb dX11_bytesOf_24 (by decide) ?_
                  refine lv_iadd hx hb dX11_bytesOf_28 ?_
                  refine lv_topi (fun x_ e_ => ?_)
                  obtain rfl : 1 = x_ := by rw [e_]; decide
                  refine lv_istore_n (lv' := [(1, .int 1), (2, .int 3), (0, .int p0)]) hx hb dX11_bytesOf_29 rfl hl (by decide) rfl (fun ls hl => ?_)
                  refine lv_iinc (v := 4) (lv' := [(2, .int 4), (1, .int 1), (0, .int p0)]) hx hb dX11_bytesOf_30 hl (k := 1) rfl (by decide) (by decide) rfl (fun ls hl => ?_)
                  refine lv_goto (tgt := 4) hx hb dX11_bytesOf_33 (by decide) ?_
                  refine lv_iload_n hx hb dX11_bytesOf_4 rfl (lv_at hl 0 rfl) ?_
                  refine lv_iconst (v := 4) hx hb dX11_bytesOf_5 (by decide) ?_
                  refine lv_icmp_ge (tgt := 36) hx hb dX11_bytesOf_6 (by decide) (fun c_885 => ?_) (fun c_885 => ?_)
                  · refine lv_iload_n hx hb dX11_bytesOf_36 rfl (lv_at hl 1 rfl) ?_
                    exact q_iret C h hr (⟨by unfold nzM nz1 sbt; rw [if_pos c_851, if_neg c_875, if_pos c_877, if_pos c_883]; rfl, rfl⟩) (Nat.le_of_ble_eq_true rfl) (Nat.le_of_ble_eq_true rfl) dX11_bytesOf_37
                  · exact absurd c_885 (by decide)
        · refine lv_iconst (v := 0) hx hb dX11_bytesOf_23 (by decide) ?_
          refine lv_goto (tgt := 28) hx hb dX11_bytesOf_24 (by decide) ?_
          refine lv_iadd hx hb dX11_bytesOf_28 ?_
          refine lv_topi (fun x_ e_ => ?_)
          obtain rfl : 0 = x_ := by rw [e_]; decide
          refine lv_istore_n (lv' := [(1, .int 0), (2, .int 1), (0, .int p0)]) hx hb dX11_bytesOf_29 rfl hl (by decide) rfl (fun ls hl => ?_)
          refine lv_iinc (v := 2) (lv' := [(2, .int 2), (1, .int 0), (0, .int p0)]) hx hb dX11_bytesOf_30 hl (k := 1) rfl (by decide) (by decide) rfl (fun ls hl => ?_)
          refine lv_goto (tgt := 4) hx hb dX11_bytesOf_33 (by decide) ?_
          refine lv_iload_n hx hb dX11_bytesOf_4 rfl (lv_at hl 0 rfl) ?_
          refine lv_iconst (v := 4) hx hb dX11_bytesOf_5 (by decide) ?_
          refine lv_icmp_ge (tgt := 36) hx hb dX11_bytesOf_6 (by decide) (fun c_886 => ?_) (fun c_886 => ?_)
          · exact absurd c_886 (by decide)
          · refine lv_iload_n hx hb dX11_bytesOf_9 rfl (lv_at hl 1 rfl) ?_
            refine lv_iload_n hx hb dX11_bytesOf_10 rfl (lv_at hl 2 rfl) ?_
            refine lv_bipush (v := 8) hx hb dX11_bytesOf_11 (by decide) ?_
            refine lv_iload_n hx hb dX11_bytesOf_13 rfl (lv_at hl 0 rfl) ?_
            refine lv_imul hx hb dX11_bytesOf_14 ?_
            refine lv_topi (fun x_ e_ => ?_)
            obtain rfl : 16 = x_ := by rw [e_]; decide
            refine lv_ishr hx hb dX11_bytesOf_15 ?_
            refine lv_sipush (v := 255) hx hb dX11_bytesOf_16 (by decide) ?_
            refine lv_iand hx hb dX11_bytesOf_19 ?_
            refine lv_if_ne (tgt := 27) hx hb dX11_bytesOf_20 (by decide) (fun c_887 => ?_) (fun c_887 => ?_)
            · refine lv_iconst (v := 1) hx hb dX11_bytesOf_27 (by decide) ?_
              refine lv_iadd hx hb dX11_bytesOf_28 ?_
              refine lv_topi (fun x_ e_ => ?_)
              obtain rfl : 1 = x_ := by rw [e_]; decide
              refine lv_istore_n (lv' := [(1, .int 1), (2, .int 2), (0, .int p0)]) hx hb dX11_bytesOf_29 rfl hl (by decide) rfl (fun ls hl => ?_)
              refine lv_iinc (v := 3) (lv' := [(2, .int 3), (1, .int 1), (0, .int p0)]) hx hb dX11_bytesOf_30 hl (k := 1) rfl (by decide) (by decide) rfl (fun ls hl => ?_)
              refine lv_goto (tgt := 4) hx hb dX11_bytesOf_33 (by decide) ?_
              refine lv_iload_n hx hb dX11_bytesOf_4 rfl (lv_at hl 0 rfl) ?_
              refine lv_iconst (v := 4) hx hb dX11_bytesOf_5 (by decide) ?_
              refine lv_icmp_ge (tgt := 36) hx hb dX11_bytesOf_6 (by decide) (fun c_888 => ?_) (fun c_888 => ?_)
              · exact absurd c_888 (by decide)
              · refine lv_iload_n hx hb dX11_bytesOf_9 rfl (lv_at hl 1 rfl) ?_
                refine lv_iload_n hx hb dX11_bytesOf_10 rfl (lv_at hl 2 rfl) ?_
                refine lv_bipush (v := 8) hx hb dX11_bytesOf_11 (by decide) ?_
                refine lv_iload_n hx hb dX11_bytesOf_13 rfl (lv_at hl 0 rfl) ?_
                refine lv_imul hx hb dX11_bytesOf_14 ?_
                refine lv_topi (fun x_ e_ => ?_)
                obtain rfl : 24 = x_ := by rw [e_]; decide
                refine lv_ishr hx hb dX11_bytesOf_15 ?_
                refine lv_sipush (v := 255) hx hb dX11_bytesOf_16 (by decide) ?_
                refine lv_iand hx hb dX11_bytesOf_19 ?_
                refine lv_if_ne (tgt := 27) hx hb dX11_bytesOf_20 (by decide) (fun c_889 => ?_) (fun c_889 => ?_)
                · refine lv_iconst (v := 1) hx hb dX11_bytesOf_27 (by decide) ?_
                  refine lv_iadd hx hb dX11_bytesOf_28 ?_
                  refine lv_topi (fun x_ e_ => ?_)
                  obtain rfl : 2 = x_ := by rw [e_]; decide
                  refine lv_istore_n (lv' := [(1, .int 2), (2, .int 3), (0, .int p0)]) hx hb dX11_bytesOf_29 rfl hl (by decide) rfl (fun ls hl => ?_)
                  refine lv_iinc (v := 4) (lv' := [(2, .int 4), (1, .int 2), (0, .int p0)]) hx hb dX11_bytesOf_30 hl (k := 1) rfl (by decide) (by decide) rfl (fun ls hl => ?_)
                  refine lv_goto (tgt := 4) hx hb dX11_bytesOf_33 (by decide) ?_
                  refine lv_iload_n hx hb dX11_bytesOf_4 rfl (lv_at hl 0 rfl) ?_
                  refine lv_iconst (v := 4) hx hb dX11_bytesOf_5 (by decide) ?_
                  refine lv_icmp_ge (tgt := 36) hx hb dX11_bytesOf_6 (by decide) (fun c_890 => ?_) (fun c_890 => ?_)
                  · refine lv_iload_n hx hb dX11_bytesOf_36 rfl (lv_at hl 1 rfl) ?_
                    exact q_iret C h hr (⟨by unfold nzM nz1 sbt; rw [if_pos c_851, if_pos c_875, if_neg c_887, if_neg c_889]; rfl, rfl⟩) (Nat.le_of_ble_eq_true rfl) (Nat.le_of_ble_eq_true rfl) dX11_bytesOf_37
                  · exact absurd c_890 (by decide)
                · refine lv_iconst (v := 0) hx hb dX11_bytesOf_23 (by decide) ?_
                  refine lv_goto (tgt := 28) hx hb dX11_bytesOf_24 (by decide) ?_
                  refine lv_iadd hx hb dX11_bytesOf_28 ?_
                  refine lv_topi (fun x_ e_ => ?_)
                  obtain rfl : 1 = x_ := by rw [e_]; decide
                  refine lv_istore_n (lv' := [(1, .int 1), (2, .int 3), (0, .int p0)]) hx hb dX11_bytesOf_29 rfl hl (by decide) rfl (fun ls hl => ?_)
                  refine lv_iinc (v := 4) (lv' := [(2, .int 4), (1, .int 1), (0, .int p0)]) hx hb dX11_bytesOf_30 hl (k := 1) rfl (by decide) (by decide) rfl (fun ls hl => ?_)
                  refine lv_goto (tgt := 4) hx hb dX11_bytesOf_33 (by decide) ?_
                  refine lv_iload_n hx hb dX11_bytesOf_4 rfl (lv_at hl 0 rfl) ?_
                  refine lv_iconst (v := 4) hx hb dX11_bytesOf_5 (by decide) ?_
                  refine lv_icmp_ge (tgt := 36) hx hb dX11_bytesOf_6 (by decide) (fun c_891 => ?_) (fun c_891 => ?_)
                  · refine lv_iload_n hx hb dX11_bytesOf_36 rfl (lv_at hl 1 rfl) ?_
                    exact q_iret C h hr (⟨by unfold nzM nz1 sbt; rw [if_pos c_851, if_pos c_875, if_neg c_887, if_pos c_889]; rfl, rfl⟩) (Nat.le_of_ble_eq_true rfl) (Nat.le_of_ble_eq_true rfl) dX11_bytesOf_37
                  · exact absurd c_891 (by decide)
            · refine lv_iconst (v := 0) hx hb dX11_bytesOf_23 (by decide) ?_
              refine lv_goto (tgt := 28) hx hb dX11_bytesOf_24 (by decide) ?_
              refine lv_iadd hx hb dX11_bytesOf_28 ?_
              refine lv_topi (fun x_ e_ => ?_)
              obtain rfl : 0 = x_ := by rw [e_]; decide
              refine lv_istore_n (lv' := [(1, .int 0), (2, .int 2), (0, .int p0)]) hx hb dX11_bytesOf_29 rfl hl (by decide) rfl (fun ls hl => ?_)
              refine lv_iinc (v := 3) (lv' := [(2, .int 3), (1, .int 0), (0, .int p0)]) hx hb dX11_bytesOf_30 hl (k := 1) rfl (by decide) (by decide) rfl (fun ls hl => ?_)
              refine lv_goto (tgt := 4) hx hb dX11_bytesOf_33 (by decide) ?_
              refine lv_iload_n hx hb dX11_bytesOf_4 rfl (lv_at hl 0 rfl) ?_
              refine lv_iconst (v := 4) hx hb dX11_bytesOf_5 (by decide) ?_
              refine lv_icmp_ge (tgt := 36) hx hb dX11_bytesOf_6 (by decide) (fun c_892 => ?_) (fun c_892 => ?_)
              · exact absurd c_892 (by decide)
              · refine lv_iload_n hx hb dX11_bytesOf_9 rfl (lv_at hl 1 rfl) ?_
                refine lv_iload_n hx hb dX11_bytesOf_10 rfl (lv_at hl 2 rfl) ?_
                refine lv_bipush (v := 8) hx hb dX11_bytesOf_11 (by decide) ?_
                refine lv_iload_n hx hb dX11_bytesOf_13 rfl (lv_at hl 0 rfl) ?_
                refine lv_imul hx hb dX11_bytesOf_14 ?_
                refine lv_topi (fun x_ e_ => ?_)
                obtain rfl : 24 = x_ := by rw [e_]; decide
                refine lv_ishr hx hb dX11_bytesOf_15 ?_
                refine lv_sipush (v := 255) hx hb dX11_bytesOf_16 (by decide) ?_
                refine lv_iand hx hb dX11_bytesOf_19 ?_
                refine lv_if_ne (tgt := 27) hx hb dX11_bytesOf_20 (by decide) (fun c_893 => ?_) (fun c_893 => ?_)
                · refine lv_iconst (v := 1) hx hb dX11_bytesOf_27 (by decide) ?_
                  refine lv_iadd hx hb dX11_bytesOf_28 ?_
                  refine lv_topi (fun x_ e_ => ?_)
                  obtain rfl : 1 = x_ := by rw [e_]; decide
                  refine lv_istore_n (lv' := [(1, .int 1), (2, .int 3), (0, .int p0)]) hx hb dX11_bytesOf_29 rfl hl (by decide) rfl (fun ls hl => ?_)
                  refine lv_iinc (v := 4) (lv' := [(2, .int 4), (1, .int 1), (0, .int p0)]) hx hb dX11_bytesOf_30 hl (k := 1) rfl (by decide) (by decide) rfl (fun ls hl => ?_)
                  refine lv_goto (tgt := 4) hx hb dX11_bytesOf_33 (by decide) ?_
                  refine lv_iload_n hx hb dX11_bytesOf_4 rfl (lv_at hl 0 rfl) ?_
                  refine lv_iconst (v := 4) hx hb dX11_bytesOf_5 (by decide) ?_
                  refine lv_icmp_ge (tgt := 36) hx hb dX11_bytesOf_6 (by decide) (fun c_894 => ?_) (fun c_894 => ?_)
                  · refine lv_iload_n hx hb dX11_bytesOf_36 rfl (lv_at hl 1 rfl) ?_
                    exact q_iret C h hr (⟨by unfold nzM nz1 sbt; rw [if_pos c_851, if_pos c_875, if_pos c_887, if_neg c_893]; rfl, rfl⟩) (Nat.le_of_ble_eq_true rfl) (Nat.le_of_ble_eq_true rfl) dX11_bytesOf_37
                  · exact absurd c_894 (by decide)
                · refine lv_iconst (v := 0) hx hb dX11_bytesOf_23 (by decide) ?_
                  refine lv_goto (tgt := 28) hx hb dX11_bytesOf_24 (by decide) ?_
                  refine lv_iadd hx hb dX11_bytesOf_28 ?_
                  refine lv_topi (fun x_ e_ => ?_)
                  obtain rfl : 0 = x_ := by rw [e_]; decide
                  refine lv_istore_n (lv' := [(1, .int 0), (2, .int 3), (0, .int p0)]) hx hb dX11_bytesOf_29 rfl hl (by decide) rfl (fun ls hl => ?_)
                  refine lv_iinc (v := 4) (lv' := [(2, .int 4), (1, .int 0), (0, .int p0)]) hx hb dX11_bytesOf_30 hl (k := 1) rfl (by decide) (by decide) rfl (fun ls hl => ?_)
                  refine lv_goto (tgt := 4) hx hb dX11_bytesOf_33 (by decide) ?_
                  refine lv_iload_n hx hb dX11_bytesOf_4 rfl (lv_at hl 0 rfl) ?_
                  refine lv_iconst (v := 4) hx hb dX11_bytesOf_5 (by decide) ?_
                  refine lv_icmp_ge (tgt := 36) hx hb dX11_bytesOf_6 (by decide) (fun c_895 => ?_) (fun c_895 => ?_)
                  · refine lv_iload_n hx hb dX11_bytesOf_36 rfl (lv_at hl 1 rfl) ?_
                    exact q_iret C h hr (⟨by unfold nzM nz1 sbt; rw [if_pos c_851, if_pos c_875, if_pos c_887, if_pos c_893]; rfl, rfl⟩) (Nat.le_of_ble_eq_true rfl) (Nat.le_of_ble_eq_true rfl) dX11_bytesOf_37
                  · exact absurd c_895 (by decide)
set_option maxRecDepth 100000 in
set_option maxHeartbeats 4000000 in
theorem c_X7_append (l : Launch) (D : va_G) (G : Nat → Nat) (b0 : Nat) (f : hM) (X : Nat → Nat) (n : Nat) (hn : n + 4 ≤ 200) (w0 : Nat → Int32) (k1 : f (X 1) = some (.inr (8, [.int (nI n), .ref (X 11), .ref (X 12), .int 0, .int 0, .int 0, .int 0]))) (k2 : f (X 11) = some (.inl (G 1, 200, .inl w0))) (p0 : Int32) : mV l yX7_append cX7_append 4 { frames := 0, cells := 0, slots := 0, locals := 0 } D G b0 f [.ref (X 1), .int p0] (fun f1 => f1 (X 1) = some (.inr (8, [.int (nI (n + nzN p0)), .ref (X 11), .ref (X 12), .int 0, .int 0, .int 0, .int 0])) ∧ (∃ r1, f1 (X 11) = some (.inl (G 1, 200, .inl r1))) ∧ ∀ q, q ≠ X 1 → q ≠ X 11 → f1 q = f q) := by
  refine met_of (own := RX7) (by decide) rfl (Nat.le_of_ble_eq_true rfl) ?_
  intro p e s m below meth c ls C hr hini hl h
  have hl : lv_has ls 4 [(0, .ref (X 1)), (1, .int p0)] := hl
  obtain ⟨hx, hb, hml, hown, hts, hE0, hlk⟩ := id C
  refine lv_bipush (v := 24) hx hb dX7_append_0 (by decide) ?_
  refine lv_istore_n (lv' := [(2, .int 24), (0, .ref (X 1)), (1, .int p0)]) hx hb dX7_append_2 rfl hl (by decide) rfl (fun ls hl => ?_)
  refine lv_iload_n hx hb dX7_append_3 rfl (lv_at hl 0 rfl) ?_
  refine lv_if_lt (tgt := 55) hx hb dX7_append_4 (by decide) (fun c_896 => ?_) (fun c_896 => ?_)
  · exact absurd c_896 (by decide)
  · refine lv_iload_n hx hb dX7_append_7 rfl (lv_at hl 2 rfl) ?_
    refine lv_iload_n hx hb dX7_append_8 rfl (lv_at hl 0 rfl) ?_
    refine lv_iushr (v := (p0.toUInt32 >>> (Int32.toUInt32 24 &&& Int32.toUInt32 31)).toInt32) hx hb dX7_append_9 rfl ?_
    refine lv_sipush (v := 255) hx hb dX7_append_10 (by decide) ?_
    refine lv_iand hx hb dX7_append_13 ?_
    refine lv_istore_n (lv' := [(3, .int (((p0.toUInt32 >>> (Int32.toUInt32 24 &&& Int32.toUInt32 31)).toInt32) &&& 255)), (2, .int 24), (0, .ref (X 1)), (1, .int p0)]) hx hb dX7_append_14 rfl hl (by decide) rfl (fun ls hl => ?_)
    refine lv_iload_n hx hb dX7_append_15 rfl (lv_at hl 0 rfl) ?_
    refine lv_if_eq (tgt := 49) hx hb dX7_append_16 (by decide) (fun c_897 => ?_) (fun c_897 => ?_)
    · refine lv_iinc (v := 16) (lv' := [(2, .int 16), (3, .int (((p0.toUInt32 >>> (Int32.toUInt32 24 &&& Int32.toUInt32 31)).toInt32) &&& 255)), (0, .ref (X 1)), (1, .int p0)]) hx hb dX7_append_49 hl (k := 1) rfl (by decide) (by decide) rfl (fun ls hl => ?_)
      refine lv_goto (tgt := 3) hx hb dX7_append_52 (by decide) ?_
      refine lv_iload_n hx hb dX7_append_3 rfl (lv_at hl 0 rfl) ?_
      refine lv_if_lt (tgt := 55) hx hb dX7_append_4 (by decide) (fun c_898 => ?_) (fun c_898 => ?_)
      · exact absurd c_898 (by decide)
      · refine lv_iload_n hx hb dX7_append_7 rfl (lv_at hl 3 rfl) ?_
        refine lv_iload_n hx hb dX7_append_8 rfl (lv_at hl 0 rfl) ?_
        refine lv_iushr (v := (p0.toUInt32 >>> (Int32.toUInt32 16 &&& Int32.toUInt32 31)).toInt32) hx hb dX7_append_9 rfl ?_
        refine lv_sipush (v := 255) hx hb dX7_append_10 (by decide) ?_
        refine lv_iand hx hb dX7_append_13 ?_
        refine lv_istore_n (lv' := [(3, .int (((p0.toUInt32 >>> (Int32.toUInt32 16 &&& Int32.toUInt32 31)).toInt32) &&& 255)), (2, .int 16), (0, .ref (X 1)), (1, .int p0)]) hx hb dX7_append_14 rfl hl (by decide) rfl (fun ls hl => ?_)
        refine lv_iload_n hx hb dX7_append_15 rfl (lv_at hl 0 rfl) ?_
        refine lv_if_eq (tgt := 49) hx hb dX7_append_16 (by decide) (fun c_899 => ?_) (fun c_899 => ?_)
        · refine lv_iinc (v := 8) (lv' := [(2, .int 8), (3, .int (((p0.toUInt32 >>> (Int32.toUInt32 16 &&& Int32.toUInt32 31)).toInt32) &&& 255)), (0, .ref (X 1)), (1, .int p0)]) hx hb dX7_append_49 hl (k := 1) rfl (by decide) (by decide) rfl (fun ls hl => ?_)
          refine lv_goto (tgt := 3) hx hb dX7_append_52 (by decide) ?_
          refine lv_iload_n hx hb dX7_append_3 rfl (lv_at hl 0 rfl) ?_
          refine lv_if_lt (tgt := 55) hx hb dX7_append_4 (by decide) (fun c_900 => ?_) (fun c_900 => ?_)
          · exact absurd c_900 (by decide)
          · refine lv_iload_n hx hb dX7_append_7 rfl (lv_at hl 3 rfl) ?_
            refine lv_iload_n hx hb dX7_append_8 rfl (lv_at hl 0 rfl) ?_
            refine lv_iushr (v := (p0.toUInt32 >>> (Int32.toUInt32 8 &&& Int32.toUInt32 31)).toInt32) hx hb dX7_append_9 rfl ?_
            refine lv_sipush (v := 255) hx hb dX7_append_10 (by decide) ?_
            refine lv_iand hx hb dX7_append_13 ?_
            refine lv_istore_n (lv' := [(3, .int (((p0.toUInt32 >>> (Int32.toUInt32 8 &&& Int32.toUInt32 31)).toInt32) &&& 255)), (2, .int 8), (0, .ref (X 1)), (1, .int p0)]) hx hb dX7_append_14 rfl hl (by decide) rfl (fun ls hl => ?_)
            refine lv_iload_n hx hb dX7_append_15 rfl (lv_at hl 0 rfl) ?_
            refine lv_if_eq (tgt := 49) hx hb dX7_append_16 (by decide) (fun c_901 => ?_) (fun c_901 => ?_)
            · refine lv_iinc (v := 0) (lv' := [(2, .int 0), (3, .int (((p0.toUInt32 >>> (Int32.toUInt32 8 &&& Int32.toUInt32 31)).toInt32) &&& 255)), (0, .ref (X 1)), (1, .int p0)]) hx hb dX7_append_49 hl (k := 1) rfl (by decide) (by decide) rfl (fun ls hl => ?_)
              refine lv_goto (tgt := 3) hx hb dX7_append_52 (by decide) ?_
              refine lv_iload_n hx hb dX7_append_3 rfl (lv_at hl 0 rfl) ?_
              refine lv_if_lt (tgt := 55) hx hb dX7_append_4 (by decide) (fun c_902 => ?_) (fun c_902 => ?_)
              · exact absurd c_902 (by decide)
              · refine lv_iload_n hx hb dX7_append_7 rfl (lv_at hl 3 rfl) ?_
                refine lv_iload_n hx hb dX7_append_8 rfl (lv_at hl 0 rfl) ?_
                refine lv_iushr (v := (p0.toUInt32 >>> (Int32.toUInt32 0 &&& Int32.toUInt32 31)).toInt32) hx hb dX7_append_9 rfl ?_
                refine lv_sipush (v := 255) hx hb dX7_append_10 (by decide) ?_
                refine lv_iand hx hb dX7_append_13 ?_
                refine lv_istore_n (lv' := [(3, .int (((p0.toUInt32 >>> (Int32.toUInt32 0 &&& Int32.toUInt32 31)).toInt32) &&& 255)), (2, .int 0), (0, .ref (X 1)), (1, .int p0)]) hx hb dX7_append_14 rfl hl (by decide) rfl (fun ls hl => ?_)
                refine lv_iload_n hx hb dX7_append_15 rfl (lv_at hl 0 rfl) ?_
                refine lv_if_eq (tgt := 49) hx hb dX7_append_16 (by decide) (fun c_903 => ?_) (fun c_903 => ?_)
                · refine lv_iinc (v := -8) (lv' := [(2, .int (-8)), (3, .int (((p0.toUInt32 >>> (Int32.toUInt32 0 &&& Int32.toUInt32 31)).toInt32) &&& 255)), (0, .ref (X 1)), (1, .int p0)]) hx hb dX7_append_49 hl (k := 1) rfl (by decide) (by decide) rfl (fun ls hl => ?_)
                  refine lv_goto (tgt := 3) hx hb dX7_append_52 (by decide) ?_
                  refine lv_iload_n hx hb dX7_append_3 rfl (lv_at hl 0 rfl) ?_
                  refine lv_if_lt (tgt := 55) hx hb dX7_append_4 (by decide) (fun c_904 => ?_) (fun c_904 => ?_)
                  · exact q_vret C h hr (⟨by rw [show n + nzN p0 = n from (by unfold nzN nz1 ub; rw [if_pos c_897, if_pos c_899, if_pos c_901, if_pos c_903]; try omega)]; exact k1, ⟨_, k2⟩, fun q h1 h2 => rfl⟩) (Nat.le_of_ble_eq_true rfl) (Nat.le_of_ble_eq_true rfl) dX7_append_55
                  · exact absurd c_904 (by decide)
                · refine lv_aload_n hx hb dX7_append_19 rfl (lv_at hl 2 rfl) ?_
                  refine q_get C h k1 fl_X7_18 (v := .int (nI n)) rfl dX7_append_20 ?_
                  refine lv_sipush (v := 200) hx hb dX7_append_23 (by decide) ?_
                  refine lv_icmp_ge (tgt := 49) hx hb dX7_append_26 (by decide) (fun c_905 => ?_) (fun c_905 => ?_)
                  · exact absurd c_905 (nle200 (by omega))
                  · refine lv_aload_n hx hb dX7_append_29 rfl (lv_at hl 2 rfl) ?_
                    refine q_get C h k1 fl_X7_11 (v := .ref (X 11)) rfl dX7_append_30 ?_
                    refine lv_aload_n hx hb dX7_append_33 rfl (lv_at hl 2 rfl) ?_
                    refine q_get C h k1 fl_X7_18 (v := .int (nI n)) rfl dX7_append_34 ?_
                    refine lv_iload_n hx hb dX7_append_37 rfl (lv_at hl 0 rfl) ?_
                    refine q_iast C h k2 (vp_in_nI (by omega) (by decide)) dX7_append_38 (fun H locs h => ?_)
                    generalize ef_907 : hu f (X 11) (.inl (G 1, 200, .inl (upd w0 (Int32.toNatClampNeg (nI n)) (((p0.toUInt32 >>> (Int32.toUInt32 0 &&& Int32.toUInt32 31)).toInt32) &&& 255)))) = f_907 at h
                    have k_908 : f_907 (X 1) = some (.inr (8, [.int (nI n), .ref (X 11), .ref (X 12), .int 0, .int 0, .int 0, .int 0])) := by rw [← ef_907]; exact hu_at k1 (hne (1, 200) (4, 8) k2 k1 rfl rfl (by decide))
                    have k_909 : f_907 (X 11) = some (.inl (G 1, 200, .inl (upd w0 (Int32.toNatClampNeg (nI n)) (((p0.toUInt32 >>> (Int32.toUInt32 0 &&& Int32.toUInt32 31)).toInt32) &&& 255)))) := by rw [← ef_907]; exact hu_self _ _ _
                    refine lv_aload_n hx hb dX7_append_39 rfl (lv_at hl 2 rfl) ?_
                    refine lv_dup hx hb dX7_append_40 rfl ?_
                    refine q_get C h k_908 fl_X7_18 (v := .int (nI n)) rfl dX7_append_41 ?_
                    refine lv_iconst (v := 1) hx hb dX7_append_44 (by decide) ?_
                    refine lv_iadd hx hb dX7_append_45 ?_
                    refine lv_topi (fun x_ e_ => ?_)
                    obtain rfl : nI (n + 1) = x_ := by rw [e_]; exact (nI_add (n) (1)).symm
                    refine q_put C h k_908 flw_X7_18 (Or.inr ⟨_, _, _, rfl, rfl⟩) (v := .int (nI (n + 1))) rfl rfl (Nat.le_of_ble_eq_true rfl) dX7_append_46 (fun H locs h => ?_)
                    have h : hw D b0 s.heap (hu f_907 (X 1) (.inr (8, [.int (nI (n + 1)), .ref (X 11), .ref (X 12), .int 0, .int 0, .int 0, .int 0]))) H locs := h
                    generalize ef_910 : hu f_907 (X 1) (.inr (8, [.int (nI (n + 1)), .ref (X 11), .ref (X 12), .int 0, .int 0, .int 0, .int 0])) = f_910 at h
                    have k_911 : f_910 (X 11) = some (.inl (G 1, 200, .inl (upd w0 (Int32.toNatClampNeg (nI n)) (((p0.toUInt32 >>> (Int32.toUInt32 0 &&& Int32.toUInt32 31)).toInt32) &&& 255)))) := by rw [← ef_910]; exact hu_at k_909 (hne (4, 8) (1, 200) k_908 k_909 rfl rfl (by decide))
                    have k_912 : f_910 (X 1) = some (.inr (8, [.int (nI (n + 1)), .ref (X 11), .ref (X 12), .int 0, .int 0, .int 0, .int 0])) := by rw [← ef_910]; exact hu_self _ _ _
                    refine lv_iinc (v := -8) (lv' := [(2, .int (-8)), (3, .int (((p0.toUInt32 >>> (Int32.toUInt32 0 &&& Int32.toUInt32 31)).toInt32) &&& 255)), (0, .ref (X 1)), (1, .int p0)]) hx hb dX7_append_49 hl (k := 1) rfl (by decide) (by decide) rfl (fun ls hl => ?_)
                    refine lv_goto (tgt := 3) hx hb dX7_append_52 (by decide) ?_
                    refine lv_iload_n hx hb dX7_append_3 rfl (lv_at hl 0 rfl) ?_
                    refine lv_if_lt (tgt := 55) hx hb dX7_append_4 (by decide) (fun c_913 => ?_) (fun c_913 => ?_)
                    · exact q_vret C h hr (⟨by rw [show n + nzN p0 = n + 1 from (by unfold nzN nz1 ub; rw [if_pos c_897, if_pos c_899, if_pos c_901, if_neg c_903]; try omega)]; exact k_912, ⟨_, k_911⟩, fun q h1 h2 => (((congrFun ef_910.symm q).trans (hu_ne h1)).trans ((congrFun ef_907.symm q).trans (hu_ne h2)))⟩) (Nat.le_of_ble_eq_true rfl) (Nat.le_of_ble_eq_true rfl) dX7_append_55
                    · exact absurd c_913 (by decide)
            · refine lv_aload_n hx hb dX7_append_19 rfl (lv_at hl 2 rfl) ?_
              refine q_get C h k1 fl_X7_18 (v := .int (nI n)) rfl dX7_append_20 ?_
              refine lv_sipush (v := 200) hx hb dX7_append_23 (by decide) ?_
              refine lv_icmp_ge (tgt := 49) hx hb dX7_append_26 (by decide) (fun c_914 => ?_) (fun c_914 => ?_)
              · exact absurd c_914 (nle200 (by omega))
              · refine lv_aload_n hx hb dX7_append_29 rfl (lv_at hl 2 rfl) ?_
                refine q_get C h k1 fl_X7_11 (v := .ref (X 11)) rfl dX7_append_30 ?_
                refine lv_aload_n hx hb dX7_append_33 rfl (lv_at hl 2 rfl) ?_
                refine q_get C h k1 fl_X7_18 (v := .int (nI n)) rfl dX7_append_34 ?_
                refine lv_iload_n hx hb dX7_append_37 rfl (lv_at hl 0 rfl) ?_
                refine q_iast C h k2 (vp_in_nI (by omega) (by decide)) dX7_append_38 (fun H locs h => ?_)
                generalize ef_916 : hu f (X 11) (.inl (G 1, 200, .inl (upd w0 (Int32.toNatClampNeg (nI n)) (((p0.toUInt32 >>> (Int32.toUInt32 8 &&& Int32.toUInt32 31)).toInt32) &&& 255)))) = f_916 at h
                have k_917 : f_916 (X 1) = some (.inr (8, [.int (nI n), .ref (X 11), .ref (X 12), .int 0, .int 0, .int 0, .int 0])) := by rw [← ef_916]; exact hu_at k1 (hne (1, 200) (4, 8) k2 k1 rfl rfl (by decide))
                have k_918 : f_916 (X 11) = some (.inl (G 1, 200, .inl (upd w0 (Int32.toNatClampNeg (nI n)) (((p0.toUInt32 >>> (Int32.toUInt32 8 &&& Int32.toUInt32 31)).toInt32) &&& 255)))) := by rw [← ef_916]; exact hu_self _ _ _
                refine lv_aload_n hx hb dX7_append_39 rfl (lv_at hl 2 rfl) ?_
                refine lv_dup hx hb dX7_append_40 rfl ?_
                refine q_get C h k_917 fl_X7_18 (v := .int (nI n)) rfl dX7_append_41 ?_
                refine lv_iconst (v := 1) hx hb dX7_append_44 (by decide) ?_
                refine lv_iadd hx hb dX7_append_45 ?_
                refine lv_topi (fun x_ e_ => ?_)
                obtain rfl : nI (n + 1) = x_ := by rw [e_]; exact (nI_add (n) (1)).symm
                refine q_put C h k_917 flw_X7_18 (Or.inr ⟨_, _, _, rfl, rfl⟩) (v := .int (nI (n + 1))) rfl rfl (Nat.le_of_ble_eq_true rfl) dX7_append_46 (fun H locs h => ?_)
                have h : hw D b0 s.heap (hu f_916 (X 1) (.inr (8, [.int (nI (n + 1)), .ref (X 11), .ref (X 12), .int 0, .int 0, .int 0, .int 0]))) H locs := h
                generalize ef_919 : hu f_916 (X 1) (.inr (8, [.int (nI (n + 1)), .ref (X 11), .ref (X 12), .int 0, .int 0, .int 0, .int 0])) = f_919 at h
                have k_920 : f_919 (X 11) = some (.inl (G 1, 200, .inl (upd w0 (Int32.toNatClampNeg (nI n)) (((p0.toUInt32 >>> (Int32.toUInt32 8 &&& Int32.toUInt32 31)).toInt32) &&& 255)))) := by rw [← ef_919]; exact hu_at k_918 (hne (4, 8) (1, 200) k_917 k_918 rfl rfl (by decide))
                have k_921 : f_919 (X 1) = some (.inr (8, [.int (nI (n + 1)), .ref (X 11), .ref (X 12), .int 0, .int 0, .int 0, .int 0])) := by rw [← ef_919]; exact hu_self _ _ _
                refine lv_iinc (v := 0) (lv' := [(2, .int 0), (3, .int (((p0.toUInt32 >>> (Int32.toUInt32 8 &&& Int32.toUInt32 31)).toInt32) &&& 255)), (0, .ref (X 1)), (1, .int p0)]) hx hb dX7_append_49 hl (k := 1) rfl (by decide) (by decide) rfl (fun ls hl => ?_)
                refine lv_goto (tgt := 3) hx hb dX7_append_52 (by decide) ?_
                refine lv_iload_n hx hb dX7_append_3 rfl (lv_at hl 0 rfl) ?_
                refine lv_if_lt (tgt := 55) hx hb dX7_append_4 (by decide) (fun c_922 => ?_) (fun c_922 => ?_)
                · exact absurd c_922 (by decide)
                · refine lv_iload_n hx hb dX7_append_7 rfl (lv_at hl 3 rfl) ?_
                  refine lv_iload_n hx hb dX7_append_8 rfl (lv_at hl 0 rfl) ?_
                  refine lv_iushr (v := (p0.toUInt32 >>> (Int32.toUInt32 0 &&& Int32.toUInt32 31)).toInt32) hx hb dX7_append_9 rfl ?_
                  refine lv_sipush (v := 255) hx hb dX7_append_10 (by decide) ?_
                  refine lv_iand hx hb dX7_append_13 ?_
                  refine lv_istore_n (lv' := [(3, .int (((p0.toUInt32 >>> (Int32.toUInt32 0 &&& Int32.toUInt32 31)).toInt32) &&& 255)), (2, .int 0), (0, .ref (X 1)), (1, .int p0)]) hx hb dX7_append_14 rfl hl (by decide) rfl (fun ls hl => ?_)
                  refine lv_iload_n hx hb dX7_append_15 rfl (lv_at hl 0 rfl) ?_
                  refine lv_if_eq (tgt := 49) hx hb dX7_append_16 (by decide) (fun c_923 => ?_) (fun c_923 => ?_)
                  · refine lv_iinc (v := -8) (lv' := [(2, .int (-8)), (3, .int (((p0.toUInt32 >>> (Int32.toUInt32 0 &&& Int32.toUInt32 31)).toInt32) &&& 255)), (0, .ref (X 1)), (1, .int p0)]) hx hb dX7_append_49 hl (k := 1) rfl (by decide) (by decide) rfl (fun ls hl => ?_)
                    refine lv_goto (tgt := 3) hx hb dX7_append_52 (by decide) ?_
                    refine lv_iload_n hx hb dX7_append_3 rfl (lv_at hl 0 rfl) ?_
                    refine lv_if_lt (tgt := 55) hx hb dX7_append_4 (by decide) (fun c_924 => ?_) (fun c_924 => ?_)
                    · exact q_vret C h hr (⟨by rw [show n + nzN p0 = n + 1 from (by unfold nzN nz1 ub; rw [if_pos c_897, if_pos c_899, if_neg c_901, if_pos c_923]; try omega)]; exact k_921, ⟨_, k_920⟩, fun q h1 h2 => (((congrFun ef_919.symm q).trans (hu_ne h1)).trans ((congrFun ef_916.symm q).trans (hu_ne h2)))⟩) (Nat.le_of_ble_eq_true rfl) (Nat.le_of_ble_eq_true rfl) dX7_append_55
                    · exact absurd c_924 (by decide)
                  · refine lv_aload_n hx hb dX7_append_19 rfl (lv_at hl 2 rfl) ?_
                    refine q_get C h k_921 fl_X7_18 (v := .int (nI (n + 1))) rfl dX7_append_20 ?_
                    refine lv_sipush (v := 200) hx hb dX7_append_23 (by decide) ?_
                    refine lv_icmp_ge (tgt := 49) hx hb dX7_append_26 (by decide) (fun c_925 => ?_) (fun c_925 => ?_)
                    · exact absurd c_925 (nle200 (by omega))
                    · refine lv_aload_n hx hb dX7_append_29 rfl (lv_at hl 2 rfl) ?_
                      refine q_get C h k_921 fl_X7_11 (v := .ref (X 11)) rfl dX7_append_30 ?_
                      refine lv_aload_n hx hb dX7_append_33 rfl (lv_at hl 2 rfl) ?_
                      refine q_get C h k_921 fl_X7_18 (v := .int (nI (n + 1))) rfl dX7_append_34 ?_
                      refine lv_iload_n hx hb dX7_append_37 rfl (lv_at hl 0 rfl) ?_
                      refine q_iast C h k_920 (vp_in_nI (by omega) (by decide)) dX7_append_38 (fun H locs h => ?_)
                      generalize ef_927 : hu f_919 (X 11) (.inl (G 1, 200, .inl (upd (upd w0 (Int32.toNatClampNeg (nI n)) (((p0.toUInt32 >>> (Int32.toUInt32 8 &&& Int32.toUInt32 31)).toInt32) &&& 255)) (Int32.toNatClampNeg (nI (n + 1))) (((p0.toUInt32 >>> (Int32.toUInt32 0 &&& Int32.toUInt32 31)).toInt32) &&& 255)))) = f_927 at h
                      have k_928 : f_927 (X 1) = some (.inr (8, [.int (nI (n + 1)), .ref (X 11), .ref (X 12), .int 0, .int 0, .int 0, .int 0])) := by rw [← ef_927]; exact hu_at k_921 (hne (1, 200) (4, 8) k_920 k_921 rfl rfl (by decide))
                      have k_929 : f_927 (X 11) = some (.inl (G 1, 200, .inl (upd (upd w0 (Int32.toNatClampNeg (nI n)) (((p0.toUInt32 >>> (Int32.toUInt32 8 &&& Int32.toUInt32 31)).toInt32) &&& 255)) (Int32.toNatClampNeg (nI (n + 1))) (((p0.toUInt32 >>> (Int32.toUInt32 0 &&& Int32.toUInt32 31)).toInt32) &&& 255)))) := by rw [← ef_927]; exact hu_self _ _ _
                      refine lv_aload_n hx hb dX7_append_39 rfl (lv_at hl 2 rfl) ?_
                      refine lv_dup hx hb dX7_append_40 rfl ?_
                      refine q_get C h k_928 fl_X7_18 (v := .int (nI (n + 1))) rfl dX7_append_41 ?_
                      refine lv_iconst (v := 1) hx hb dX7_append_44 (by decide) ?_
                      refine lv_iadd hx hb dX7_append_45 ?_
                      refine lv_topi (fun x_ e_ => ?_)
                      obtain rfl : nI (n + 1 + 1) = x_ := by rw [e_]; exact (nI_add (n + 1) (1)).symm
                      refine q_put C h k_928 flw_X7_18 (Or.inr ⟨_, _, _, rfl, rfl⟩) (v := .int (nI (n + 1 + 1))) rfl rfl (Nat.le_of_ble_eq_true rfl) dX7_append_46 (fun H locs h => ?_)
                      have h : hw D b0 s.heap (hu f_927 (X 1) (.inr (8, [.int (nI (n + 1 + 1)), .ref (X 11), .ref (X 12), .int 0, .int 0, .int 0, .int 0]))) H locs := h
                      generalize ef_930 : hu f_927 (X 1) (.inr (8, [.int (nI (n + 1 + 1)), .ref (X 11), .ref (X 12), .int 0, .int 0, .int 0, .int 0])) = f_930 at h
                      have k_931 : f_930 (X 11) = some (.inl (G 1, 200, .inl (upd (upd w0 (Int32.toNatClampNeg (nI n)) (((p0.toUInt32 >>> (Int32.toUInt32 8 &&& Int32.toUInt32 31)).toInt32) &&& 255)) (Int32.toNatClampNeg (nI (n + 1))) (((p0.toUInt32 >>> (Int32.toUInt32 0 &&& Int32.toUInt32 31)).toInt32) &&& 255)))) := by rw [← ef_930]; exact hu_at k_929 (hne (4, 8) (1, 200) k_928 k_929 rfl rfl (by decide))
                      have k_932 : f_930 (X 1) = some (.inr (8, [.int (nI (n + 1 + 1)), .ref (X 11), .ref (X 12), .int 0, .int 0, .int 0, .int 0])) := by rw [← ef_930]; exact hu_self _ _ _
                      refine lv_iinc (v := -8) (lv' := [(2, .int (-8)), (3, .int (((p0.toUInt32 >>> (Int32.toUInt32 0 &&& Int32.toUInt32 31)).toInt32) &&& 255)), (0, .ref (X 1)), (1, .int p0)]) hx hb dX7_append_49 hl (k := 1) rfl (by decide) (by decide) rfl (fun ls hl => ?_)
                      refine lv_goto (tgt := 3) hx hb dX7_append_52 (by decide) ?_
                      refine lv_iload_n hx hb dX7_append_3 rfl (lv_at hl 0 rfl) ?_
                      refine lv_if_lt (tgt := 55) hx hb dX7_append_4 (by decide) (fun c_933 => ?_) (fun c_933 => ?_)
                      · exact q_vret C h hr (⟨by rw [show n + nzN p0 = n + 1 + 1 from (by unfold nzN nz1 ub; rw [if_pos c_897, if_pos c_899, if_neg c_901, if_neg c_923]; try omega)]; exact k_932, ⟨_, k_931⟩, fun q h1 h2 => (((((congrFun ef_930.symm q).trans (hu_ne h1)).trans ((congrFun ef_927.symm q).trans (hu_ne h2))).trans ((congrFun ef_919.symm q).trans (hu_ne h1))).trans ((congrFun ef_916.symm q).trans (hu_ne h2)))⟩) (Nat.le_of_ble_eq_true rfl) (Nat.le_of_ble_eq_true rfl) dX7_append_55
                      · exact absurd c_933 (by decide)
        · refine lv_aload_n hx hb dX7_append_19 rfl (lv_at hl 2 rfl) ?_
          refine q_get C h k1 fl_X7_18 (v := .int (nI n)) rfl dX7_append_20 ?_
          refine lv_sipush (v := 200) hx hb dX7_append_23 (by decide) ?_
          refine lv_icmp_ge (tgt := 49) hx hb dX7_append_26 (by decide) (fun c_934 => ?_) (fun c_934 => ?_)
          · exact absurd c_934 (nle200 (by omega))
          · refine lv_aload_n hx hb dX7_append_29 rfl (lv_at hl 2 rfl) ?_
            refine q_get C h k1 fl_X7_11 (v := .ref (X 11)) rfl dX7_append_30 ?_
            refine lv_aload_n hx hb dX7_append_33 rfl (lv_at hl 2 rfl) ?_
            refine q_get C h k1 fl_X7_18 (v := .int (nI n)) rfl dX7_append_34 ?_
            refine lv_iload_n hx hb dX7_append_37 rfl (lv_at hl 0 rfl) ?_
            refine q_iast C h k2 (vp_in_nI (by omega) (by decide)) dX7_append_38 (fun H locs h => ?_)
            generalize ef_936 : hu f (X 11) (.inl (G 1, 200, .inl (upd w0 (Int32.toNatClampNeg (nI n)) (((p0.toUInt32 >>> (Int32.toUInt32 16 &&& Int32.toUInt32 31)).toInt32) &&& 255)))) = f_936 at h
            have k_937 : f_936 (X 1) = some (.inr (8, [.int (nI n), .ref (X 11), .ref (X 12), .int 0, .int 0, .int 0, .int 0])) := by rw [← ef_936]; exact hu_at k1 (hne (1, 200) (4, 8) k2 k1 rfl rfl (by decide))
            have k_938 : f_936 (X 11) = some (.inl (G 1, 200, .inl (upd w0 (Int32.toNatClampNeg (nI n)) (((p0.toUInt32 >>> (Int32.toUInt32 16 &&& Int32.toUInt32 31)).toInt32) &&& 255)))) := by rw [← ef_936]; exact hu_self _ _ _
            refine lv_aload_n hx hb dX7_append_39 rfl (lv_at hl 2 rfl) ?_
            refine lv_dup hx hb dX7_append_40 rfl ?_
            refine q_get C h k_937 fl_X7_18 (v := .int (nI n)) rfl dX7_append_41 ?_
            refine lv_iconst (v := 1) hx hb dX7_append_44 (by decide) ?_
            refine lv_iadd hx hb dX7_append_45 ?_
            refine lv_topi (fun x_ e_ => ?_)
            obtain rfl : nI (n + 1) = x_ := by rw [e_]; exact (nI_add (n) (1)).symm
            refine q_put C h k_937 flw_X7_18 (Or.inr ⟨_, _, _, rfl, rfl⟩) (v := .int (nI (n + 1))) rfl rfl (Nat.le_of_ble_eq_true rfl) dX7_append_46 (fun H locs h => ?_)
            have h : hw D b0 s.heap (hu f_936 (X 1) (.inr (8, [.int (nI (n + 1)), .ref (X 11), .ref (X 12), .int 0, .int 0, .int 0, .int 0]))) H locs := h
            generalize ef_939 : hu f_936 (X 1) (.inr (8, [.int (nI (n + 1)), .ref (X 11), .ref (X 12), .int 0, .int 0, .int 0, .int 0])) = f_939 at h
            have k_940 : f_939 (X 11) = some (.inl (G 1, 200, .inl (upd w0 (Int32.toNatClampNeg (nI n)) (((p0.toUInt32 >>> (Int32.toUInt32 16 &&& Int32.toUInt32 31)).toInt32) &&& 255)))) := by rw [← ef_939]; exact hu_at k_938 (hne (4, 8) (1, 200) k_937 k_938 rfl rfl (by decide))
            have k_941 : f_939 (X 1) = some (.inr (8, [.int (nI (n + 1)), .ref (X 11), .ref (X 12), .int 0, .int 0, .int 0, .int 0])) := by rw [← ef_939]; exact hu_self _ _ _
            refine lv_iinc (v := 8) (lv' := [(2, .int 8), (3, .int (((p0.toUInt32 >>> (Int32.toUInt32 16 &&& Int32.toUInt32 31)).toInt32) &&& 255)), (0, .ref (X 1)), (1, .int p0)]) hx hb dX7_append_49 hl (k := 1) rfl (by decide) (by decide) rfl (fun ls hl => ?_)
            refine lv_goto (tgt := 3) hx hb dX7_append_52 (by decide) ?_
            refine lv_iload_n hx hb dX7_append_3 rfl (lv_at hl 0 rfl) ?_
            refine lv_if_lt (tgt := 55) hx hb dX7_append_4 (by decide) (fun c_942 => ?_) (fun c_942 => ?_)
            · exact absurd c_942 (by decide)
            · refine lv_iload_n hx hb dX7_append_7 rfl (lv_at hl 3 rfl) ?_
              refine lv_iload_n hx hb dX7_append_8 rfl (lv_at hl 0 rfl) ?_
              refine lv_iushr (v := (p0.toUInt32 >>> (Int32.toUInt32 8 &&& Int32.toUInt32 31)).toInt32) hx hb dX7_append_9 rfl ?_
              refine lv_sipush (v := 255) hx hb dX7_append_10 (by decide) ?_
              refine lv_iand hx hb dX7_append_13 ?_
              refine lv_istore_n (lv' := [(3, .int (((p0.toUInt32 >>> (Int32.toUInt32 8 &&& Int32.toUInt32 31)).toInt32) &&& 255)), (2, .int 8), (0, .ref (X 1)), (1, .int p0)]) hx hb dX7_append_14 rfl hl (by decide) rfl (fun ls hl => ?_)
              refine lv_iload_n hx hb dX7_append_15 rfl (lv_at hl 0 rfl) ?_
              refine lv_if_eq (tgt := 49) hx hb dX7_append_16 (by decide) (fun c_943 => ?_) (fun c_943 => ?_)
              · refine lv_iinc (v := 0) (lv' := [(2, .int 0), (3, .int (((p0.toUInt32 >>> (Int32.toUInt32 8 &&& Int32.toUInt32 31)).toInt32) &&& 255)), (0, .ref (X 1)), (1, .int p0)]) hx hb dX7_append_49 hl (k := 1) rfl (by decide) (by decide) rfl (fun ls hl => ?_)
                refine lv_goto (tgt := 3) hx hb dX7_append_52 (by decide) ?_
                refine lv_iload_n hx hb dX7_append_3 rfl (lv_at hl 0 rfl) ?_
                refine lv_if_lt (tgt := 55) hx hb dX7_append_4 (by decide) (fun c_944 => ?_) (fun c_944 => ?_)
                · exact absurd c_944 (by decide)
                · refine lv_iload_n hx hb dX7_append_7 rfl (lv_at hl 3 rfl) ?_
                  refine lv_iload_n hx hb dX7_append_8 rfl (lv_at hl 0 rfl) ?_
                  refine lv_iushr (v := (p0.toUInt32 >>> (Int32.toUInt32 0 &&& Int32.toUInt32 31)).toInt32) hx hb dX7_append_9 rfl ?_
                  refine lv_sipush (v := 255) hx hb dX7_append_10 (by decide) ?_
                  refine lv_iand hx hb dX7_append_13 ?_
                  refine lv_istore_n (lv' := [(3, .int (((p0.toUInt32 >>> (Int32.toUInt32 0 &&& Int32.toUInt32 31)).toInt32) &&& 255)), (2, .int 0), (0, .ref (X 1)), (1, .int p0)]) hx hb dX7_append_14 rfl hl (by decide) rfl (fun ls hl => ?_)
                  refine lv_iload_n hx hb dX7_append_15 rfl (lv_at hl 0 rfl) ?_
                  refine lv_if_eq (tgt := 49) hx hb dX7_append_16 (by decide) (fun c_945 => ?_) (fun c_945 => ?_)
                  · refine lv_iinc (v := -8) (lv' := [(2, .int (-8)), (3, .int (((p0.toUInt32 >>> (Int32.toUInt32 0 &&& Int32.toUInt32 31)).toInt32) &&& 255)), (0, .ref (X 1)), (1, .int p0)]) hx hb dX7_append_49 hl (k := 1) rfl (by decide) (by decide) rfl (fun ls hl => ?_)
                    refine lv_goto (tgt := 3) hx hb dX7_append_52 (by decide) ?_
                    refine lv_iload_n hx hb dX7_append_3 rfl (lv_at hl 0 rfl) ?_
                    refine lv_if_lt (tgt := 55) hx hb dX7_append_4 (by decide) (fun c_946 => ?_) (fun c_946 => ?_)
                    · exact q_vret C h hr (⟨by rw [show n + nzN p0 = n + 1 from (by unfold nzN nz1 ub; rw [if_pos c_897, if_neg c_899, if_pos c_943, if_pos c_945]; try omega)]; exact k_941, ⟨_, k_940⟩, fun q h1 h2 => (((congrFun ef_939.symm q).trans (hu_ne h1)).trans ((congrFun ef_936.symm q).trans (hu_ne h2)))⟩) (Nat.le_of_ble_eq_true rfl) (Nat.le_of_ble_eq_true rfl) dX7_append_55
                    · exact absurd c_946 (by decide)
                  · refine lv_aload_n hx hb dX7_append_19 rfl (lv_at hl 2 rfl) ?_
                    refine q_get C h k_941 fl_X7_18 (v := .int (nI (n + 1))) rfl dX7_append_20 ?_
                    refine lv_sipush (v := 200) hx hb dX7_append_23 (by decide) ?_
                    refine lv_icmp_ge (tgt := 49) hx hb dX7_append_26 (by decide) (fun c_947 => ?_) (fun c_947 => ?_)
                    · exact absurd c_947 (nle200 (by omega))
                    · refine lv_aload_n hx hb dX7_append_29 rfl (lv_at hl 2 rfl) ?_
                      refine q_get C h k_941 fl_X7_11 (v := .ref (X 11)) rfl dX7_append_30 ?_
                      refine lv_aload_n hx hb dX7_append_33 rfl (lv_at hl 2 rfl) ?_
                      refine q_get C h k_941 fl_X7_18 (v := .int (nI (n + 1))) rfl dX7_append_34 ?_
                      refine lv_iload_n hx hb dX7_append_37 rfl (lv_at hl 0 rfl) ?_
                      refine q_iast C h k_940 (vp_in_nI (by omega) (by decide)) dX7_append_38 (fun H locs h => ?_)
                      generalize ef_949 : hu f_939 (X 11) (.inl (G 1, 200, .inl (upd (upd w0 (Int32.toNatClampNeg (nI n)) (((p0.toUInt32 >>> (Int32.toUInt32 16 &&& Int32.toUInt32 31)).toInt32) &&& 255)) (Int32.toNatClampNeg (nI (n + 1))) (((p0.toUInt32 >>> (Int32.toUInt32 0 &&& Int32.toUInt32 31)).toInt32) &&& 255)))) = f_949 at h
                      have k_950 : f_949 (X 1) = some (.inr (8, [.int (nI (n + 1)), .ref (X 11), .ref (X 12), .int 0, .int 0, .int 0, .int 0])) := by rw [← ef_949]; exact hu_at k_941 (hne (1, 200) (4, 8) k_940 k_941 rfl rfl (by decide))
                      have k_951 : f_949 (X 11) = some (.inl (G 1, 200, .inl (upd (upd w0 (Int32.toNatClampNeg (nI n)) (((p0.toUInt32 >>> (Int32.toUInt32 16 &&& Int32.toUInt32 31)).toInt32) &&& 255)) (Int32.toNatClampNeg (nI (n + 1))) (((p0.toUInt32 >>> (Int32.toUInt32 0 &&& Int32.toUInt32 31)).toInt32) &&& 255)))) := by rw [← ef_949]; exact hu_self _ _ _
                      refine lv_aload_n hx hb dX7_append_39 rfl (lv_at hl 2 rfl) ?_
                      refine lv_dup hx hb dX7_append_40 rfl ?_
                      refine q_get C h k_950 fl_X7_18 (v := .int (nI (n + 1))) rfl dX7_append_41 ?_
                      refine lv_iconst (v := 1) hx hb dX7_append_44 (by decide) ?_
                      refine lv_iadd hx hb dX7_append_45 ?_
                      refine lv_topi (fun x_ e_ => ?_)
                      obtain rfl : nI (n + 1 + 1) = x_ := by rw [e_]; exact (nI_add (n + 1) (1)).symm
                      refine q_put C h k_950 flw_X7_18 (Or.inr ⟨_, _, _, rfl, rfl⟩) (v := .int (nI (n + 1 + 1))) rfl rfl (Nat.le_of_ble_eq_true rfl) dX7_append_46 (fun H locs h => ?_)
                      have h : hw D b0 s.heap (hu f_949 (X 1) (.inr (8, [.int (nI (n + 1 + 1)), .ref (X 11), .ref (X 12), .int 0, .int 0, .int 0, .int 0]))) H locs := h
                      generalize ef_952 : hu f_949 (X 1) (.inr (8, [.int (nI (n + 1 + 1)), .ref (X 11), .ref (X 12), .int 0, .int 0, .int 0, .int 0])) = f_952 at h
                      have k_953 : f_952 (X 11) = some (.inl (G 1, 200, .inl (upd (upd w0 (Int32.toNatClampNeg (nI n)) (((p0.toUInt32 >>> (Int32.toUInt32 16 &&& Int32.toUInt32 31)).toInt32) &&& 255)) (Int32.toNatClampNeg (nI (n + 1))) (((p0.toUInt32 >>> (Int32.toUInt32 0 &&& Int32.toUInt32 31)).toInt32) &&& 255)))) := by rw [← ef_952]; exact hu_at k_951 (hne (4, 8) (1, 200) k_950 k_951 rfl rfl (by decide))
                      have k_954 : f_952 (X 1) = some (.inr (8, [.int (nI (n + 1 + 1)), .ref (X 11), .ref (X 12), .int 0, .int 0, .int 0, .int 0])) := by rw [← ef_952]; exact hu_self _ _ _
                      refine lv_iinc (v := -8) (lv' := [(2, .int (-8)), (3, .int (((p0.toUInt32 >>> (Int32.toUInt32 0 &&& Int32.toUInt32 31)).toInt32) &&& 255)), (0, .ref (X 1)), (1, .int p0)]) hx hb dX7_append_49 hl (k := 1) rfl (by decide) (by decide) rfl (fun ls hl => ?_)
                      refine lv_goto (tgt := 3) hx hb dX7_append_52 (by decide) ?_
                      refine lv_iload_n hx hb dX7_append_3 rfl (lv_at hl 0 rfl) ?_
                      refine lv_if_lt (tgt := 55) hx hb dX7_append_4 (by decide) (fun c_955 => ?_) (fun c_955 => ?_)
                      · exact q_vret C h hr (⟨by rw [show n + nzN p0 = n + 1 + 1 from (by unfold nzN nz1 ub; rw [if_pos c_897, if_neg c_899, if_pos c_943, if_neg c_945]; try omega)]; exact k_954, ⟨_, k_953⟩, fun q h1 h2 => (((((congrFun ef_952.symm q).trans (hu_ne h1)).trans ((congrFun ef_949.symm q).trans (hu_ne h2))).trans ((congrFun ef_939.symm q).trans (hu_ne h1))).trans ((congrFun ef_936.symm q).trans (hu_ne h2)))⟩) (Nat.le_of_ble_eq_true rfl) (Nat.le_of_ble_eq_true rfl) dX7_append_55
                      · exact absurd c_955 (by decide)
              · refine lv_aload_n hx hb dX7_append_19 rfl (lv_at hl 2 rfl) ?_
                refine q_get C h k_941 fl_X7_18 (v := .int (nI (n + 1))) rfl dX7_append_20 ?_
                refine lv_sipush (v := 200) hx hb dX7_append_23 (by decide) ?_
                refine lv_icmp_ge (tgt := 49) hx hb dX7_append_26 (by decide) (fun c_956 => ?_) (fun c_956 => ?_)
                · exact absurd c_956 (nle200 (by omega))
                · refine lv_aload_n hx hb dX7_append_29 rfl (lv_at hl 2 rfl) ?_
                  refine q_get C h k_941 fl_X7_11 (v := .ref (X 11)) rfl dX7_append_30 ?_
                  refine lv_aload_n hx hb dX7_append_33 rfl (lv_at hl 2 rfl) ?_
                  refine q_get C h k_941 fl_X7_18 (v := .int (nI (n + 1))) rfl dX7_append_34 ?_
                  refine lv_iload_n hx hb dX7_append_37 rfl (lv_at hl 0 rfl) ?_
                  refine q_iast C h k_940 (vp_in_nI (by omega) (by decide)) dX7_append_38 (fun H locs h => ?_)
                  generalize ef_958 : hu f_939 (X 11) (.inl (G 1, 200, .inl (upd (upd w0 (Int32.toNatClampNeg (nI n)) (((p0.toUInt32 >>> (Int32.toUInt32 16 &&& Int32.toUInt32 31)).toInt32) &&& 255)) (Int32.toNatClampNeg (nI (n + 1))) (((p0.toUInt32 >>> (Int32.toUInt32 8 &&& Int32.toUInt32 31)).toInt32) &&& 255)))) = f_958 at h
                  have k_959 : f_958 (X 1) = some (.inr (8, [.int (nI (n + 1)), .ref (X 11), .ref (X 12), .int 0, .int 0, .int 0, .int 0])) := by rw [← ef_958]; exact hu_at k_941 (hne (1, 200) (4, 8) k_940 k_941 rfl rfl (by decide))
                  have k_960 : f_958 (X 11) = some (.inl (G 1, 200, .inl (upd (upd w0 (Int32.toNatClampNeg (nI n)) (((p0.toUInt32 >>> (Int32.toUInt32 16 &&& Int32.toUInt32 31)).toInt32) &&& 255)) (Int32.toNatClampNeg (nI (n + 1))) (((p0.toUInt32 >>> (Int32.toUInt32 8 &&& Int32.toUInt32 31)).toInt32) &&& 255)))) := by rw [← ef_958]; exact hu_self _ _ _
                  refine lv_aload_n hx hb dX7_append_39 rfl (lv_at hl 2 rfl) ?_
                  refine lv_dup hx hb dX7_append_40 rfl ?_
                  refine q_get C h k_959 fl_X7_18 (v := .int (nI (n + 1))) rfl dX7_append_41 ?_
                  refine lv_iconst (v := 1) hx hb dX7_append_44 (by decide) ?_
                  refine lv_iadd hx hb dX7_append_45 ?_
                  refine lv_topi (fun x_ e_ => ?_)
                  obtain rfl : nI (n + 1 + 1) = x_ := by rw [e_]; exact (nI_add (n + 1) (1)).symm
                  refine q_put C h k_959 flw_X7_18 (Or.inr ⟨_, _, _, rfl, rfl⟩) (v := .int (nI (n + 1 + 1))) rfl rfl (Nat.le_of_ble_eq_true rfl) dX7_append_46 (fun H locs h => ?_)
                  have h : hw D b0 s.heap (hu f_958 (X 1) (.inr (8, [.int (nI (n + 1 + 1)), .ref (X 11), .ref (X 12), .int 0, .int 0, .int 0, .int 0]))) H locs := h
                  generalize ef_961 : hu f_958 (X 1) (.inr (8, [.int (nI (n + 1 + 1)), .ref (X 11), .ref (X 12), .int 0, .int 0, .int 0, .int 0])) = f_961 at h
                  have k_962 : f_961 (X 11) = some (.inl (G 1, 200, .inl (upd (upd w0 (Int32.toNatClampNeg (nI n)) (((p0.toUInt32 >>> (Int32.toUInt32 16 &&& Int32.toUInt32 31)).toInt32) &&& 255)) (Int32.toNatClampNeg (nI (n + 1))) (((p0.toUInt32 >>> (Int32.toUInt32 8 &&& Int32.toUInt32 31)).toInt32) &&& 255)))) := by rw [← ef_961]; exact hu_at k_960 (hne (4, 8) (1, 200) k_959 k_960 rfl rfl (by decide))
                  have k_963 : f_961 (X 1) = some (.inr (8, [.int (nI (n + 1 + 1)), .ref (X 11), .ref (X 12), .int 0, .int 0, .int 0, .int 0])) := by rw [← ef_961]; exact hu_self _ _ _
                  refine lv_iinc (v := 0) (lv' := [(2, .int 0), (3, .int (((p0.toUInt32 >>> (Int32.toUInt32 8 &&& Int32.toUInt32 31)).toInt32) &&& 255)), (0, .ref (X 1)), (1, .int p0)]) hx hb dX7_append_49 hl (k := 1) rfl (by decide) (by decide) rfl (fun ls hl => ?_)
                  refine lv_goto (tgt := 3) hx hb dX7_append_52 (by decide) ?_
                  refine lv_iload_n hx hb dX7_append_3 rfl (lv_at hl 0 rfl) ?_
                  refine lv_if_lt (tgt := 55) hx hb dX7_append_4 (by decide) (fun c_964 => ?_) (fun c_964 => ?_)
                  · exact absurd c_964 (by decide)
                  · refine lv_iload_n hx hb dX7_append_7 rfl (lv_at hl 3 rfl) ?_
                    refine lv_iload_n hx hb dX7_append_8 rfl (lv_at hl 0 rfl) ?_
                    refine lv_iushr (v := (p0.toUInt32 >>> (Int32.toUInt32 0 &&& Int32.toUInt32 31)).toInt32) hx hb dX7_append_9 rfl ?_
                    refine lv_sipush (v := 255) hx hb dX7_append_10 (by decide) ?_
                    refine lv_iand hx hb dX7_append_13 ?_
                    refine lv_istore_n (lv' := [(3, .int (((p0.toUInt32 >>> (Int32.toUInt32 0 &&& Int32.toUInt32 31)).toInt32) &&& 255)), (2, .int 0), (0, .ref (X 1)), (1, .int p0)]) hx hb dX7_append_14 rfl hl (by decide) rfl (fun ls hl => ?_)
                    refine lv_iload_n hx hb dX7_append_15 rfl (lv_at hl 0 rfl) ?_
                    refine lv_if_eq (tgt := 49) hx hb dX7_append_16 (by decide) (fun c_965 => ?_) (fun c_965 => ?_)
                    · refine lv_iinc (v := -8) (lv' := [(2, .int (-8)), (3, .int (((p0.toUInt32 >>> (Int32.toUInt32 0 &&& Int32.toUInt32 31)).toInt32) &&& 255)), (0, .ref (X 1)), (1, .int p0)]) hx hb dX7_append_49 hl (k := 1) rfl (by decide) (by decide) rfl (fun ls hl => ?_)
                      refine lv_goto (tgt := 3) hx hb dX7_append_52 (by decide) ?_
                      refine lv_iload_n hx hb dX7_append_3 rfl (lv_at hl 0 rfl) ?_
                      refine lv_if_lt (tgt := 55) hx hb dX7_append_4 (by decide) (fun c_966 => ?_) (fun c_966 => ?_)
                      · exact q_vret C h hr (⟨by rw [show n + nzN p0 = n + 1 + 1 from (by unfold nzN nz1 ub; rw [if_pos c_897, if_neg c_899, if_neg c_943, if_pos c_965]; try omega)]; exact k_963, ⟨_, k_962⟩, fun q h1 h2 => (((((congrFun ef_961.symm q).trans (hu_ne h1)).trans ((congrFun ef_958.symm q).trans (hu_ne h2))).trans ((congrFun ef_939.symm q).trans (hu_ne h1))).trans ((congrFun ef_936.symm q).trans (hu_ne h2)))⟩) (Nat.le_of_ble_eq_true rfl) (Nat.le_of_ble_eq_true rfl) dX7_append_55
                      · exact absurd c_966 (by decide)
                    · refine lv_aload_n hx hb dX7_append_19 rfl (lv_at hl 2 rfl) ?_
                      refine q_get C h k_963 fl_X7_18 (v := .int (nI (n + 1 + 1))) rfl dX7_append_20 ?_
                      refine lv_sipush (v := 200) hx hb dX7_append_23 (by decide) ?_
                      refine lv_icmp_ge (tgt := 49) hx hb dX7_append_26 (by decide) (fun c_967 => ?_) (fun c_967 => ?_)
                      · exact absurd c_967 (nle200 (by omega))
                      · refine lv_aload_n hx hb dX7_append_29 rfl (lv_at hl 2 rfl) ?_
                        refine q_get C h k_963 fl_X7_11 (v := .ref (X 11)) rfl dX7_append_30 ?_
                        refine lv_aload_n hx hb dX7_append_33 rfl (lv_at hl 2 rfl) ?_
                        refine q_get C h k_963 fl_X7_18 (v := .int (nI (n + 1 + 1))) rfl dX7_append_34 ?_
                        refine lv_iload_n hx hb dX7_append_37 rfl (lv_at hl 0 rfl) ?_
                        refine q_iast C h k_962 (vp_in_nI (by omega) (by decide)) dX7_append_38 (fun H locs h => ?_)
                        generalize ef_969 : hu f_961 (X 11) (.inl (G 1, 200, .inl (upd (upd (upd w0 (Int32.toNatClampNeg (nI n)) (((p0.toUInt32 >>> (Int32.toUInt32 16 &&& Int32.toUInt32 31)).toInt32) &&& 255)) (Int32.toNatClampNeg (nI (n + 1))) (((p0.toUInt32 >>> (Int32.toUInt32 8 &&& Int32.toUInt32 31)).toInt32) &&& 255)) (Int32.toNatClampNeg (nI (n + 1 + 1))) (((p0.toUInt32 >>> (Int32.toUInt32 0 &&& Int32.toUInt32 31)).toInt32) &&& 255)))) = f_969 at h
                        have k_970 : f_969 (X 1) = some (.inr (8, [.int (nI (n + 1 + 1)), .ref (X 11), .ref (X 12), .int 0, .int 0, .int 0, .int 0])) := by rw [← ef_969]; exact hu_at k_963 (hne (1, 200) (4, 8) k_962 k_963 rfl rfl (by decide))
                        have k_971 : f_969 (X 11) = some (.inl (G 1, 200, .inl (upd (upd (upd w0 (Int32.toNatClampNeg (nI n)) (((p0.toUInt32 >>> (Int32.toUInt32 16 &&& Int32.toUInt32 31)).toInt32) &&& 255)) (Int32.toNatClampNeg (nI (n + 1))) (((p0.toUInt32 >>> (Int32.toUInt32 8 &&& Int32.toUInt32 31)).toInt32) &&& 255)) (Int32.toNatClampNeg (nI (n + 1 + 1))) (((p0.toUInt32 >>> (Int32.toUInt32 0 &&& Int32.toUInt32 31)).toInt32) &&& 255)))) := by rw [← ef_969]; exact hu_self _ _ _
                        refine lv_aload_n hx hb dX7_append_39 rfl (lv_at hl 2 rfl) ?_
                        refine lv_dup hx hb dX7_append_40 rfl ?_
                        refine q_get C h k_970 fl_X7_18 (v := .int (nI (n + 1 + 1))) rfl dX7_append_41 ?_
                        refine lv_iconst (v := 1) hx hb dX7_append_44 (by decide) ?_
                        refine lv_iadd hx hb dX7_append_45 ?_
                        refine lv_topi (fun x_ e_ => ?_)
                        obtain rfl : nI (n + 1 + 1 + 1) = x_ := by rw [e_]; exact (nI_add (n + 1 + 1) (1)).symm
                        refine q_put C h k_970 flw_X7_18 (Or.inr ⟨_, _, _, rfl, rfl⟩) (v := .int (nI (n + 1 + 1 + 1))) rfl rfl (Nat.le_of_ble_eq_true rfl) dX7_append_46 (fun H locs h => ?_)
                        have h : hw D b0 s.heap (hu f_969 (X 1) (.inr (8, [.int (nI (n + 1 + 1 + 1)), .ref (X 11), .ref (X 12), .int 0, .int 0, .int 0, .int 0]))) H locs := h
                        generalize ef_972 : hu f_969 (X 1) (.inr (8, [.int (nI (n + 1 + 1 + 1)), .ref (X 11), .ref (X 12), .int 0, .int 0, .int 0, .int 0])) = f_972 at h
                        have k_973 : f_972 (X 11) = some (.inl (G 1, 200, .inl (upd (upd (upd w0 (Int32.toNatClampNeg (nI n)) (((p0.toUInt32 >>> (Int32.toUInt32 16 &&& Int32.toUInt32 31)).toInt32) &&& 255)) (Int32.toNatClampNeg (nI (n + 1))) (((p0.toUInt32 >>> (Int32.toUInt32 8 &&& Int32.toUInt32 31)).toInt32) &&& 255)) (Int32.toNatClampNeg (nI (n + 1 + 1))) (((p0.toUInt32 >>> (Int32.toUInt32 0 &&& Int32.toUInt32 31)).toInt32) &&& 255)))) := by rw [← ef_972]; exact hu_at k_971 (hne (4, 8) (1, 200) k_970 k_971 rfl rfl (by decide))
                        have k_974 : f_972 (X 1) = some (.inr (8, [.int (nI (n + 1 + 1 + 1)), .ref (X 11), .ref (X 12), .int 0, .int 0, .int 0, .int 0])) := by rw [← ef_972]; exact hu_self _ _ _
                        refine lv_iinc (v := -8) (lv' := [(2, .int (-8)), (3, .int (((p0.toUInt32 >>> (Int32.toUInt32 0 &&& Int32.toUInt32 31)).toInt32) &&& 255)), (0, .ref (X 1)), (1, .int p0)]) hx hb dX7_append_49 hl (k := 1) rfl (by decide) (by decide) rfl (fun ls hl => ?_)
                        refine lv_goto (tgt := 3) hx hb dX7_append_52 (by decide) ?_
                        refine lv_iload_n hx hb dX7_append_3 rfl (lv_at hl 0 rfl) ?_
                        refine lv_if_lt (tgt := 55) hx hb dX7_append_4 (by decide) (fun c_975 => ?_) (fun c_975 => ?_)
                        · exact q_vret C h hr (⟨by rw [show n + nzN p0 = n + 1 + 1 + 1 from (by unfold nzN nz1 ub; rw [if_pos c_897, if_neg c_899, if_neg c_943, if_neg c_965]; try omega)]; exact k_974, ⟨_, k_973⟩, fun q h1 h2 => (((((((congrFun ef_972.symm q).trans (hu_ne h1)).trans ((congrFun ef_969.symm q).trans (hu_ne h2))).trans ((congrFun ef_961.symm q).trans (hu_ne h1))).trans ((congrFun ef_958.symm q).trans (hu_ne h2))).trans ((congrFun ef_939.symm q).trans (hu_ne h1))).trans ((congrFun ef_936.symm q).trans (hu_ne h2)))⟩) (Nat.le_of_ble_eq_true rfl) (Nat.le_of_ble_eq_true rfl) dX7_append_55
                        · exact absurd c_975 (by decide)
    · refine lv_aload_n hx hb dX7_append_19 rfl (lv_at hl 2 rfl) ?_
      refine q_get C h k1 fl_X7_18 (v := .int (nI n)) rfl dX7_append_20 ?_
      refine lv_sipush (v := 200) hx hb dX7_append_23 (by decide) ?_
      refine lv_icmp_ge (tgt := 49) hx hb dX7_append_26 (by decide) (fun c_976 => ?_) (fun c_976 => ?_)
      · exact absurd c_976 (nle200 (by omega))
      · refine lv_aload_n hx hb dX7_append_29 rfl (lv_at hl 2 rfl) ?_
        refine q_get C h k1 fl_X7_11 (v := .ref (X 11)) rfl dX7_append_30 ?_
        refine lv_aload_n hx hb dX7_append_33 rfl (lv_at hl 2 rfl) ?_
        refine q_get C h k1 fl_X7_18 (v := .int (nI n)) rfl dX7_append_34 ?_
        refine lv_iload_n hx hb dX7_append_37 rfl (lv_at hl 0 rfl) ?_
        refine q_iast C h k2 (vp_in_nI (by omega) (by decide)) dX7_append_38 (fun H locs h => ?_)
        generalize ef_978 : hu f (X 11) (.inl (G 1, 200, .inl (upd w0 (Int32.toNatClampNeg (nI n)) (((p0.toUInt32 >>> (Int32.toUInt32 24 &&& Int32.toUInt32 31)).toInt32) &&& 255)))) = f_978 at h
        have k_979 : f_978 (X 1) = some (.inr (8, [.int (nI n), .ref (X 11), .ref (X 12), .int 0, .int 0, .int 0, .int 0])) := by rw [← ef_978]; exact hu_at k1 (hne (1, 200) (4, 8) k2 k1 rfl rfl (by decide))
        have k_980 : f_978 (X 11) = some (.inl (G 1, 200, .inl (upd w0 (Int32.toNatClampNeg (nI n)) (((p0.toUInt32 >>> (Int32.toUInt32 24 &&& Int32.toUInt32 31)).toInt32) &&& 255)))) := by rw [← ef_978]; exact hu_self _ _ _
        refine lv_aload_n hx hb dX7_append_39 rfl (lv_at hl 2 rfl) ?_
        refine lv_dup hx hb dX7_append_40 rfl ?_
        refine q_get C h k_979 fl_X7_18 (v := .int (nI n)) rfl dX7_append_41 ?_
        refine lv_iconst (v := 1) hx hb dX7_append_44 (by decide) ?_
        refine lv_iadd hx hb dX7_append_45 ?_
        refine lv_topi (fun x_ e_ => ?_)
        obtain rfl : nI (n + 1) = x_ := by rw [e_]; exact (nI_add (n) (1)).symm
        refine q_put C h k_979 flw_X7_18 (Or.inr ⟨_, _, _, rfl, rfl⟩) (v := .int (nI (n + 1))) rfl rfl (Nat.le_of_ble_eq_true rfl) dX7_append_46 (fun H locs h => ?_)
        have h : hw D b0 s.heap (hu f_978 (X 1) (.inr (8, [.int (nI (n + 1)), .ref (X 11), .ref (X 12), .int 0, .int 0, .int 0, .int 0]))) H locs := h
        generalize ef_981 : hu f_978 (X 1) (.inr (8, [.int (nI (n + 1)), .ref (X 11), .ref (X 12), .int 0, .int 0, .int 0, .int 0])) = f_981 at h
        have k_982 : f_981 (X 11) = some (.inl (G 1, 200, .inl (upd w0 (Int32.toNatClampNeg (nI n)) (((p0.toUInt32 >>> (Int32.toUInt32 24 &&& Int32.toUInt32 31)).toInt32) &&& 255)))) := by rw [← ef_981]; exact hu_at k_980 (hne (4, 8) (1, 200) k_979 k_980 rfl rfl (by decide))
        have k_983 : f_981 (X 1) = some (.inr (8, [.int (nI (n + 1)), .ref (X 11), .ref (X 12), .int 0, .int 0, .int 0, .int 0])) := by rw [← ef_981]; exact hu_self _ _ _
        refine lv_iinc (v := 16) (lv' := [(2, .int 16), (3, .int (((p0.toUInt32 >>> (Int32.toUInt32 24 &&& Int32.toUInt32 31)).toInt32) &&& 255)), (0, .ref (X 1)), (1, .int p0)]) hx hb dX7_append_49 hl (k := 1) rfl (by decide) (by decide) rfl (fun ls hl => ?_)
        refine lv_goto (tgt := 3) hx hb dX7_append_52 (by decide) ?_
        refine lv_iload_n hx hb dX7_append_3 rfl (lv_at hl 0 rfl) ?_
        refine lv_if_lt (tgt := 55) hx hb dX7_append_4 (by decide) (fun c_984 => ?_) (fun c_984 => ?_)
        · exact absurd c_984 (by decide)
        · refine lv_iload_n hx hb dX7_append_7 rfl (lv_at hl 3 rfl) ?_
          refine lv_iload_n hx hb dX7_append_8 rfl (lv_at hl 0 rfl) ?_
          refine lv_iushr (v := (p0.toUInt32 >>> (Int32.toUInt32 16 &&& Int32.toUInt32 31)).toInt32) hx hb dX7_append_9 rfl ?_
          refine lv_sipush (v := 255) hx hb dX7_append_10 (by decide) ?_
          refine lv_iand hx hb dX7_append_13 ?_
          refine lv_istore_n (lv' := [(3, .int (((p0.toUInt32 >>> (Int32.toUInt32 16 &&& Int32.toUInt32 31)).toInt32) &&& 255)), (2, .int 16), (0, .ref (X 1)), (1, .int p0)]) hx hb dX7_append_14 rfl hl (by decide) rfl (fun ls hl => ?_)
          refine lv_iload_n hx hb dX7_append_15 rfl (lv_at hl 0 rfl) ?_
          refine lv_if_eq (tgt := 49) hx hb dX7_append_16 (by decide) (fun c_985 => ?_) (fun c_985 => ?_)
          · refine lv_iinc (v := 8) (lv' := [(2, .int 8), (3, .int (((p0.toUInt32 >>> (Int32.toUInt32 16 &&& Int32.toUInt32 31)).toInt32) &&& 255)), (0, .ref (X 1)), (1, .int p0)]) hx hb dX7_append_49 hl (k := 1) rfl (by decide) (by decide) rfl (fun ls hl => ?_)
            refine lv_goto (tgt := 3) hx hb dX7_append_52 (by decide) ?_
            refine lv_iload_n hx hb dX7_append_3 rfl (lv_at hl 0 rfl) ?_
            refine lv_if_lt (tgt := 55) hx hb dX7_append_4 (by decide) (fun c_986 => ?_) (fun c_986 => ?_)
            · exact absurd c_986 (by decide)
            · refine lv_iload_n hx hb dX7_append_7 rfl (lv_at hl 3 rfl) ?_
              refine lv_iload_n hx hb dX7_append_8 rfl (lv_at hl 0 rfl) ?_
              refine lv_iushr (v := (p0.toUInt32 >>> (Int32.toUInt32 8 &&& Int32.toUInt32 31)).toInt32) hx hb dX7_append_9 rfl ?_
              refine lv_sipush (v := 255) hx hb dX7_append_10 (by decide) ?_
              refine lv_iand hx hb dX7_append_13 ?_
              refine lv_istore_n (lv' := [(3, .int (((p0.toUInt32 >>> (Int32.toUInt32 8 &&& Int32.toUInt32 31)).toInt32) &&& 255)), (2, .int 8), (0, .ref (X 1)), (1, .int p0)]) hx hb dX7_append_14 rfl hl (by decide) rfl (fun ls hl => ?_)
              refine lv_iload_n hx hb dX7_append_15 rfl (lv_at hl 0 rfl) ?_
              refine lv_if_eq (tgt := 49) hx hb dX7_append_16 (by decide) (fun c_987 => ?_) (fun c_987 => ?_)
              · refine lv_iinc (v := 0) (lv' := [(2, .int 0), (3, .int (((p0.toUInt32 >>> (Int32.toUInt32 8 &&& Int32.toUInt32 31)).toInt32) &&& 255)), (0, .ref (X 1)), (1, .int p0)]) hx hb dX7_append_49 hl (k := 1) rfl (by decide) (by decide) rfl (fun ls hl => ?_)
                refine lv_goto (tgt := 3) hx hb dX7_append_52 (by decide) ?_
                refine lv_iload_n hx hb dX7_append_3 rfl (lv_at hl 0 rfl) ?_
                refine lv_if_lt (tgt := 55) hx hb dX7_append_4 (by decide) (fun c_988 => ?_) (fun c_988 => ?_)
                · exact absurd c_988 (by decide)
                · refine lv_iload_n hx hb dX7_append_7 rfl (lv_at hl 3 rfl) ?_
                  refine lv_iload_n hx hb dX7_append_8 rfl (lv_at hl 0 rfl) ?_
                  refine lv_iushr (v := (p0.toUInt32 >>> (Int32.toUInt32 0 &&& Int32.toUInt32 31)).toInt32) hx hb dX7_append_9 rfl ?_
                  refine lv_sipush (v := 255) hx hb dX7_append_10 (by decide) ?_
                  refine lv_iand hx hb dX7_append_13 ?_
                  refine lv_istore_n (lv' := [(3, .int (((p0.toUInt32 >>> (Int32.toUInt32 0 &&& Int32.toUInt32 31)).toInt32) &&& 255)), (2, .int 0), (0, .ref (X 1)), (1, .int p0)]) hx hb dX7_append_14 rfl hl (by decide) rfl (fun ls hl => ?_)
                  refine lv_iload_n hx hb dX7_append_15 rfl (lv_at hl 0 rfl) ?_
                  refine lv_if_eq (tgt := 49) hx hb dX7_append_16 (by decide) (fun c_989 => ?_) (fun c_989 => ?_)
                  · refine lv_iinc (v := -8) (lv' := [(2, .int (-8)), (3, .int (((p0.toUInt32 >>> (Int32.toUInt32 0 &&& Int32.toUInt32 31)).toInt32) &&& 255)), (0, .ref (X 1)), (1, .int p0)]) hx hb dX7_append_49 hl (k := 1) rfl (by decide) (by decide) rfl (fun ls hl => ?_)
                    refine lv_goto (tgt := 3) hx hb dX7_append_52 (by decide) ?_
                    refine lv_iload_n hx hb dX7_append_3 rfl (lv_at hl 0 rfl) ?_
                    refine lv_if_lt (tgt := 55) hx hb dX7_append_4 (by decide) (fun c_990 => ?_) (fun c_990 => ?_)
                    · exact q_vret C h hr (⟨by rw [show n + nzN p0 = n + 1 from (by unfold nzN nz1 ub; rw [if_neg c_897, if_pos c_985, if_pos c_987, if_pos c_989]; try omega)]; exact k_983, ⟨_, k_982⟩, fun q h1 h2 => (((congrFun ef_981.symm q).trans (hu_ne h1)).trans ((congrFun ef_978.symm q).trans (hu_ne h2)))⟩) (Nat.le_of_ble_eq_true rfl) (Nat.le_of_ble_eq_true rfl) dX7_append_55
                    · exact absurd c_990 (by decide)
                  · refine lv_aload_n hx hb dX7_append_19 rfl (lv_at hl 2 rfl) ?_
                    refine q_get C h k_983 fl_X7_18 (v := .int (nI (n + 1))) rfl dX7_append_20 ?_
                    refine lv_sipush (v := 200) hx hb dX7_append_23 (by decide) ?_
                    refine lv_icmp_ge (tgt := 49) hx hb dX7_append_26 (by decide) (fun c_991 => ?_) (fun c_991 => ?_)
                    · exact absurd c_991 (nle200 (by omega))
                    · refine lv_aload_n hx hb dX7_append_29 rfl (lv_at hl 2 rfl) ?_
                      refine q_get C h k_983 fl_X7_11 (v := .ref (X 11)) rfl dX7_append_30 ?_
                      refine lv_aload_n hx hb dX7_append_33 rfl (lv_at hl 2 rfl) ?_
                      refine q_get C h k_983 fl_X7_18 (v := .int (nI (n + 1))) rfl dX7_append_34 ?_
                      refine lv_iload_n hx hb dX7_append_37 rfl (lv_at hl 0 rfl) ?_
                      refine q_iast C h k_982 (vp_in_nI (by omega) (by decide)) dX7_append_38 (fun H locs h => ?_)
                      generalize ef_993 : hu f_981 (X 11) (.inl (G 1, 200, .inl (upd (upd w0 (Int32.toNatClampNeg (nI n)) (((p0.toUInt32 >>> (Int32.toUInt32 24 &&& Int32.toUInt32 31)).toInt32) &&& 255)) (Int32.toNatClampNeg (nI (n + 1))) (((p0.toUInt32 >>> (Int32.toUInt32 0 &&& Int32.toUInt32 31)).toInt32) &&& 255)))) = f_993 at h
                      have k_994 : f_993 (X 1) = some (.inr (8, [.int (nI (n + 1)), .ref (X 11), .ref (X 12), .int 0, .int 0, .int 0, .int 0])) := by rw [← ef_993]; exact hu_at k_983 (hne (1, 200) (4, 8) k_982 k_983 rfl rfl (by decide))
                      have k_995 : f_993 (X 11) = some (.inl (G 1, 200, .inl (upd (upd w0 (Int32.toNatClampNeg (nI n)) (((p0.toUInt32 >>> (Int32.toUInt32 24 &&& Int32.toUInt32 31)).toInt32) &&& 255)) (Int32.toNatClampNeg (nI (n + 1))) (((p0.toUInt32 >>> (Int32.toUInt32 0 &&& Int32.toUInt32 31)).toInt32) &&& 255)))) := by rw [← ef_993]; exact hu_self _ _ _
                      refine lv_aload_n hx hb dX7_append_39 rfl (lv_at hl 2 rfl) ?_
                      refine lv_dup hx hb dX7_append_40 rfl ?_
                      refine q_get C h k_994 fl_X7_18 (v := .int (nI (n + 1))) rfl dX7_append_41 ?_
                      refine lv_iconst (v := 1) hx hb dX7_append_44 (by decide) ?_
                      refine lv_iadd hx hb dX7_append_45 ?_
                      refine lv_topi (fun x_ e_ => ?_)
                      obtain rfl : nI (n + 1 + 1) = x_ := by rw [e_]; exact (nI_add (n + 1) (1)).symm
                      refine q_put C h k_994 flw_X7_18 (Or.inr ⟨_, _, _, rfl, rfl⟩) (v := .int (nI (n + 1 + 1))) rfl rfl (Nat.le_of_ble_eq_true rfl) dX7_append_46 (fun H locs h => ?_)
                      have h : hw D b0 s.heap (hu f_993 (X 1) (.inr (8, [.int (nI (n + 1 + 1)), .ref (X 11), .ref (X 12), .int 0, .int 0, .int 0, .int 0]))) H locs := h
                      generalize ef_996 : hu f_993 (X 1) (.inr (8, [.int (nI (n + 1 + 1)), .ref (X 11), .ref (X 12), .int 0, .int 0, .int 0, .int 0])) = f_996 at h
                      have k_997 : f_996 (X 11) = some (.inl (G 1, 200, .inl (upd (upd w0 (Int32.toNatClampNeg (nI n)) (((p0.toUInt32 >>> (Int32.toUInt32 24 &&& Int32.toUInt32 31)).toInt32) &&& 255)) (Int32.toNatClampNeg (nI (n + 1))) (((p0.toUInt32 >>> (Int32.toUInt32 0 &&& Int32.toUInt32 31)).toInt32) &&& 255)))) := by rw [← ef_996]; exact hu_at k_995 (hne (4, 8) (1, 200) k_994 k_995 rfl rfl (by decide))
                      have k_998 : f_996 (X 1) = some (.inr (8, [.int (nI (n + 1 + 1)), .ref (X 11), .ref (X 12), .int 0, .int 0, .int 0, .int 0])) := by rw [← ef_996]; exact hu_self _ _ _
                      refine lv_iinc (v := -8) (lv' := [(2, .int (-8)), (3, .int (((p0.toUInt32 >>> (Int32.toUInt32 0 &&& Int32.toUInt32 31)).toInt32) &&& 255)), (0, .ref (X 1)), (1, .int p0)]) hx hb dX7_append_49 hl (k := 1) rfl (by decide) (by decide) rfl (fun ls hl => ?_)
                      refine lv_goto (tgt := 3) hx hb dX7_append_52 (by decide) ?_
                      refine lv_iload_n hx hb dX7_append_3 rfl (lv_at hl 0 rfl) ?_
                      refine lv_if_lt (tgt := 55) hx hb dX7_append_4 (by decide) (fun c_999 => ?_) (fun c_999 => ?_)
                      · exact q_vret C h hr (⟨by rw [show n + nzN p0 = n + 1 + 1 from (by unfold nzN nz1 ub; rw [if_neg c_897, if_pos c_985, if_pos c_987, if_neg c_989]; try omega)]; exact k_998, ⟨_, k_997⟩, fun q h1 h2 => (((((congrFun ef_996.symm q).trans (hu_ne h1)).trans ((congrFun ef_993.symm q).trans (hu_ne h2))).trans ((congrFun ef_981.symm q).trans (hu_ne h1))).trans ((congrFun ef_978.symm q).trans (hu_ne h2)))⟩) (Nat.le_of_ble_eq_true rfl) (Nat.le_of_ble_eq_true rfl) dX7_append_55
                      · exact absurd c_999 (by decide)
              · refine lv_aload_n hx hb dX7_append_19 rfl (lv_at hl 2 rfl) ?_
                refine q_get C h k_983 fl_X7_18 (v := .int (nI (n + 1))) rfl dX7_append_20 ?_
                refine lv_sipush (v := 200) hx hb dX7_append_23 (by decide) ?_
                refine lv_icmp_ge (tgt := 49) hx hb dX7_append_26 (by decide) (fun c_1000 => ?_) (fun c_1000 => ?_)
                · exact absurd c_1000 (nle200 (by omega))
                · refine lv_aload_n hx hb dX7_append_29 rfl (lv_at hl 2 rfl) ?_
                  refine q_get C h k_983 fl_X7_11 (v := .ref (X 11)) rfl dX7_append_30 ?_
                  refine lv_aload_n hx hb dX7_append_33 rfl (lv_at hl 2 rfl) ?_
                  refine q_get C h k_983 fl_X7_18 (v := .int (nI (n + 1))) rfl dX7_append_34 ?_
                  refine lv_iload_n hx hb dX7_append_37 rfl (lv_at hl 0 rfl) ?_
                  refine q_iast C h k_982 (vp_in_nI (by omega) (by decide)) dX7_append_38 (fun H locs h => ?_)
                  generalize ef_1002 : hu f_981 (X 11) (.inl (G 1, 200, .inl (upd (upd w0 (Int32.toNatClampNeg (nI n)) (((p0.toUInt32 >>> (Int32.toUInt32 24 &&& Int32.toUInt32 31)).toInt32) &&& 255)) (Int32.toNatClampNeg (nI (n + 1))) (((p0.toUInt32 >>> (Int32.toUInt32 8 &&& Int32.toUInt32 31)).toInt32) &&& 255)))) = f_1002 at h
                  have k_1003 : f_1002 (X 1) = some (.inr (8, [.int (nI (n + 1)), .ref (X 11), .ref (X 12), .int 0, .int 0, .int 0, .int 0])) := by rw [← ef_1002]; exact hu_at k_983 (hne (1, 200) (4, 8) k_982 k_983 rfl rfl (by decide))
                  have k_1004 : f_1002 (X 11) = some (.inl (G 1, 200, .inl (upd (upd w0 (Int32.toNatClampNeg (nI n)) (((p0.toUInt32 >>> (Int32.toUInt32 24 &&& Int32.toUInt32 31)).toInt32) &&& 255)) (Int32.toNatClampNeg (nI (n + 1))) (((p0.toUInt32 >>> (Int32.toUInt32 8 &&& Int32.toUInt32 31)).toInt32) &&& 255)))) := by rw [← ef_1002]; exact hu_self _ _ _
                  refine lv_aload_n hx hb dX7_append_39 rfl (lv_at hl 2 rfl) ?_
                  refine lv_dup hx hb dX7_append_40 rfl ?_
                  refine q_get C h k_1003 fl_X7_18 (v := .int (nI (n + 1))) rfl dX7_append_41 ?_
                  refine lv_iconst (v := 1) hx hb dX7_append_44 (by decide) ?_
                  refine lv_iadd hx hb dX7_append_45 ?_
                  refine lv_topi (fun x_ e_ => ?_)
                  obtain rfl : nI (n + 1 + 1) = x_ := by rw [e_]; exact (nI_add (n + 1) (1)).symm
                  refine q_put C h k_1003 flw_X7_18 (Or.inr ⟨_, _, _, rfl, rfl⟩) (v := .int (nI (n + 1 + 1))) rfl rfl (Nat.le_of_ble_eq_true rfl) dX7_append_46 (fun H locs h => ?_)
                  have h : hw D b0 s.heap (hu f_1002 (X 1) (.inr (8, [.int (nI (n + 1 + 1)), .ref (X 11), .ref (X 12), .int 0, .int 0, .int 0, .int 0]))) H locs := h
                  generalize ef_1005 : hu f_1002 (X 1) (.inr (8, [.int (nI (n + 1 + 1)), .ref (X 11), .ref (X 12), .int 0, .int 0, .int 0, .int 0])) = f_1005 at h
                  have k_1006 : f_1005 (X 11) = some (.inl (G 1, 200, .inl (upd (upd w0 (Int32.toNatClampNeg (nI n)) (((p0.toUInt32 >>> (Int32.toUInt32 24 &&& Int32.toUInt32 31)).toInt32) &&& 255)) (Int32.toNatClampNeg (nI (n + 1))) (((p0.toUInt32 >>> (Int32.toUInt32 8 &&& Int32.toUInt32 31)).toInt32) &&& 255)))) := by rw [← ef_1005]; exact hu_at k_1004 (hne (4, 8) (1, 200) k_1003 k_1004 rfl rfl (by decide))
                  have k_1007 : f_1005 (X 1) = some (.inr (8, [.int (nI (n + 1 + 1)), .ref (X 11), .ref (X 12), .int 0, .int 0, .int 0, .int 0])) := by rw [← ef_1005]; exact hu_self _ _ _
                  refine lv_iinc (v := 0) (lv' := [(2, .int 0), (3, .int (((p0.toUInt32 >>> (Int32.toUInt32 8 &&& Int32.toUInt32 31)).toInt32) &&& 255)), (0, .ref (X 1)), (1, .int p0)]) hx hb dX7_append_49 hl (k := 1) rfl (by decide) (by decide) rfl (fun ls hl => ?_)
                  refine lv_goto (tgt := 3) hx hb dX7_append_52 (by decide) ?_
                  refine lv_iload_n hx hb dX7_append_3 rfl (lv_at hl 0 rfl) ?_
                  refine lv_if_lt (tgt := 55) hx hb dX7_append_4 (by decide) (fun c_1008 => ?_) (fun c_1008 => ?_)
                  · exact absurd c_1008 (by decide)
                  · refine lv_iload_n hx hb dX7_append_7 rfl (lv_at hl 3 rfl) ?_
                    refine lv_iload_n hx hb dX7_append_8 rfl (lv_at hl 0 rfl) ?_
                    refine lv_iushr (v := (p0.toUInt32 >>> (Int32.toUInt32 0 &&& Int32.toUInt32 31)).toInt32) hx hb dX7_append_9 rfl ?_
                    refine lv_sipush (v := 255) hx hb dX7_append_10 (by decide) ?_
                    refine lv_iand hx hb dX7_append_13 ?_
                    refine lv_istore_n (lv' := [(3, .int (((p0.toUInt32 >>> (Int32.toUInt32 0 &&& Int32.toUInt32 31)).toInt32) &&& 255)), (2, .int 0), (0, .ref (X 1)), (1, .int p0)]) hx hb dX7_append_14 rfl hl (by decide) rfl (fun ls hl => ?_)
                    refine lv_iload_n hx hb dX7_append_15 rfl (lv_at hl 0 rfl) ?_
                    refine lv_if_eq (tgt := 49) hx hb dX7_append_16 (by decide) (fun c_1009 => ?_) (fun c_1009 => ?_)
                    · refine lv_iinc (v := -8) (lv' := [(2, .int (-8)), (3, .int (((p0.toUInt32 >>> (Int32.toUInt32 0 &&& Int32.toUInt32 31)).toInt32) &&& 255)), (0, .ref (X 1)), (1, .int p0)]) hx hb dX7_append_49 hl (k := 1) rfl (by decide) (by decide) rfl (fun ls hl => ?_)
                      refine lv_goto (tgt := 3) hx hb dX7_append_52 (by decide) ?_
                      refine lv_iload_n hx hb dX7_append_3 rfl (lv_at hl 0 rfl) ?_
                      refine lv_if_lt (tgt := 55) hx hb dX7_append_4 (by decide) (fun c_1010 => ?_) (fun c_1010 => ?_)
                      · exact q_vret C h hr (⟨by rw [show n + nzN p0 = n + 1 + 1 from (by unfold nzN nz1 ub; rw [if_neg c_897, if_pos c_985, if_neg c_987, if_pos c_1009]; try omega)]; exact k_1007, ⟨_, k_1006⟩, fun q h1 h2 => (((((congrFun ef_1005.symm q).trans (hu_ne h1)).trans ((congrFun ef_1002.symm q).trans (hu_ne h2))).trans ((congrFun ef_981.symm q).trans (hu_ne h1))).trans ((congrFun ef_978.symm q).trans (hu_ne h2)))⟩) (Nat.le_of_ble_eq_true rfl) (Nat.le_of_ble_eq_true rfl) dX7_append_55
                      · exact absurd c_1010 (by decide)
                    · refine lv_aload_n hx hb dX7_append_19 rfl (lv_at hl 2 rfl) ?_
                      refine q_get C h k_1007 fl_X7_18 (v := .int (nI (n + 1 + 1))) rfl dX7_append_20 ?_
                      refine lv_sipush (v := 200) hx hb dX7_append_23 (by decide) ?_
                      refine lv_icmp_ge (tgt := 49) hx hb dX7_append_26 (by decide) (fun c_1011 => ?_) (fun c_1011 => ?_)
                      · exact absurd c_1011 (nle200 (by omega))
                      · refine lv_aload_n hx hb dX7_append_29 rfl (lv_at hl 2 rfl) ?_
                        refine q_get C h k_1007 fl_X7_11 (v := .ref (X 11)) rfl dX7_append_30 ?_
                        refine lv_aload_n hx hb dX7_append_33 rfl (lv_at hl 2 rfl) ?_
                        refine q_get C h k_1007 fl_X7_18 (v := .int (nI (n + 1 + 1))) rfl dX7_append_34 ?_
                        refine lv_iload_n hx hb dX7_append_37 rfl (lv_at hl 0 rfl) ?_
                        refine q_iast C h k_1006 (vp_in_nI (by omega) (by decide)) dX7_append_38 (fun H locs h => ?_)
                        generalize ef_1013 : hu f_1005 (X 11) (.inl (G 1, 200, .inl (upd (upd (upd w0 (Int32.toNatClampNeg (nI n)) (((p0.toUInt32 >>> (Int32.toUInt32 24 &&& Int32.toUInt32 31)).toInt32) &&& 255)) (Int32.toNatClampNeg (nI (n + 1))) (((p0.toUInt32 >>> (Int32.toUInt32 8 &&& Int32.toUInt32 31)).toInt32) &&& 255)) (Int32.toNatClampNeg (nI (n + 1 + 1))) (((p0.toUInt32 >>> (Int32.toUInt32 0 &&& Int32.toUInt32 31)).toInt32) &&& 255)))) = f_1013 at h
                        have k_1014 : f_1013 (X 1) = some (.inr (8, [.int (nI (n + 1 + 1)), .ref (X 11), .ref (X 12), .int 0, .int 0, .int 0, .int 0])) := by rw [← ef_1013]; exact hu_at k_1007 (hne (1, 200) (4, 8) k_1006 k_1007 rfl rfl (by decide))
                        have k_1015 : f_1013 (X 11) = some (.inl (G 1, 200, .inl (upd (upd (upd w0 (Int32.toNatClampNeg (nI n)) (((p0.toUInt32 >>> (Int32.toUInt32 24 &&& Int32.toUInt32 31)).toInt32) &&& 255)) (Int32.toNatClampNeg (nI (n + 1))) (((p0.toUInt32 >>> (Int32.toUInt32 8 &&& Int32.toUInt32 31)).toInt32) &&& 255)) (Int32.toNatClampNeg (nI (n + 1 + 1))) (((p0.toUInt32 >>> (Int32.toUInt32 0 &&& Int32.toUInt32 31)).toInt32) &&& 255)))) := by rw [← ef_1013]; exact hu_self _ _ _
                        refine lv_aload_n hx hb dX7_append_39 rfl (lv_at hl 2 rfl) ?_
                        refine lv_dup hx hb dX7_append_40 rfl ?_
                        refine q_get C h k_1014 fl_X7_18 (v := .int (nI (n + 1 + 1))) rfl dX7_append_41 ?_
                        refine lv_iconst (v := 1) hx hb dX7_append_44 (by decide) ?_
                        refine lv_iadd hx hb dX7_append_45 ?_
                        refine lv_topi (fun x_ e_ => ?_)
                        obtain rfl : nI (n + 1 + 1 + 1) = x_ := by rw [e_]; exact (nI_add (n + 1 + 1) (1)).symm
                        refine q_put C h k_1014 flw_X7_18 (Or.inr ⟨_, _, _, rfl, rfl⟩) (v := .int (nI (n + 1 + 1 + 1))) rfl rfl (Nat.le_of_ble_eq_true rfl) dX7_append_46 (fun H locs h => ?_)
                        have h : hw D b0 s.heap (hu f_1013 (X 1) (.inr (8, [.int (nI (n + 1 + 1 + 1)), .ref (X 11), .ref (X 12), .int 0, .int 0, .int 0, .int 0]))) H locs := h
                        generalize ef_1016 : hu f_1013 (X 1) (.inr (8, [.int (nI (n + 1 + 1 + 1)), .ref (X 11), .ref (X 12), .int 0, .int 0, .int 0, .int 0])) = f_1016 at h
                        have k_1017 : f_1016 (X 11) = some (.inl (G 1, 200, .inl (upd (upd (upd w0 (Int32.toNatClampNeg (nI n)) (((p0.toUInt32 >>> (Int32.toUInt32 24 &&& Int32.toUInt32 31)).toInt32) &&& 255)) (Int32.toNatClampNeg (nI (n + 1))) (((p0.toUInt32 >>> (Int32.toUInt32 8 &&& Int32.toUInt32 31)).toInt32) &&& 255)) (Int32.toNatClampNeg (nI (n + 1 + 1))) (((p0.toUInt32 >>> (Int32.toUInt32 0 &&& Int32.toUInt32 31)).toInt32) &&& 255)))) := by rw [← ef_1016]; exact hu_at k_1015 (hne (4, 8) (1, 200) k_1014 k_1015 rfl rfl (by decide))
                        have k_1018 : f_1016 (X 1) = some (.inr (8, [.int (nI (n + 1 + 1 + 1)), .ref (X 11), .ref (X 12), .int 0, .int 0, .int 0, .int 0])) := by rw [← ef_1016]; exact hu_self _ _ _
                        refine lv_iinc (v := -8) (lv' := [(2, .int (-8)), (3, .int (((p0.toUInt32 >>> (Int32.toUInt32 0 &&& Int32.toUInt32 31)).toInt32) &&& 255)), (0, .ref (X 1)), (1, .int p0)]) hx hb dX7_append_49 hl (k := 1) rfl (by decide) (by decide) rfl (fun ls hl => ?_)
                        refine lv_goto (tgt := 3) hx hb dX7_append_52 (by decide) ?_
                        refine lv_iload_n hx hb dX7_append_3 rfl (lv_at hl 0 rfl) ?_
                        refine lv_if_lt (tgt := 55) hx hb dX7_append_4 (by decide) (fun c_1019 => ?_) (fun c_1019 => ?_)
                        · exact q_vret C h hr (⟨by rw [show n + nzN p0 = n + 1 + 1 + 1 from (by unfold nzN nz1 ub; rw [if_neg c_897, if_pos c_985, if_neg c_987, if_neg c_1009]; try omega)]; exact k_1018, ⟨_, k_1017⟩, fun q h1 h2 => (((((((congrFun ef_1016.symm q).trans (hu_ne h1)).trans ((congrFun ef_1013.symm q).trans (hu_ne h2))).trans ((congrFun ef_1005.symm q).trans (hu_ne h1))).trans ((congrFun ef_1002.symm q).trans (hu_ne h2))).trans ((congrFun ef_981.symm q).trans (hu_ne h1))).trans ((congrFun ef_978.symm q).trans (hu_ne h2)))⟩) (Nat.le_of_ble_eq_true rfl) (Nat.le_of_ble_eq_true rfl) dX7_append_55
                        · exact absurd c_1019 (by decide)
          · refine lv_aload_n hx hb dX7_append_19 rfl (lv_at hl 2 rfl) ?_
            refine q_get C h k_983 fl_X7_18 (v := .int (nI (n + 1))) rfl dX7_append_20 ?_
            refine lv_sipush (v := 200) hx hb dX7_append_23 (by decide) ?_
            refine lv_icmp_ge (tgt := 49) hx hb dX7_append_26 (by decide) (fun c_1020 => ?_) (fun c_1020 => ?_)
            · exact absurd c_1020 (nle200 (by omega))
            · refine lv_aload_n hx hb dX7_append_29 rfl (lv_at hl 2 rfl) ?_
              refine q_get C h k_983 fl_X7_11 (v := .ref (X 11)) rfl dX7_append_30 ?_
              refine lv_aload_n hx hb dX7_append_33 rfl (lv_at hl 2 rfl) ?_
              refine q_get C h k_983 fl_X7_18 (v := .int (nI (n + 1))) rfl dX7_append_34 ?_
              refine lv_iload_n hx hb dX7_append_37 rfl (lv_at hl 0 rfl) ?_
              refine q_iast C h k_982 (vp_in_nI (by omega) (by decide)) dX7_append_38 (fun H locs h => ?_)
              generalize ef_1022 : hu f_981 (X 11) (.inl (G 1, 200, .inl (upd (upd w0 (Int32.toNatClampNeg (nI n)) (((p0.toUInt32 >>> (Int32.toUInt32 24 &&& Int32.toUInt32 31)).toInt32) &&& 255)) (Int32.toNatClampNeg (nI (n + 1))) (((p0.toUInt32 >>> (Int32.toUInt32 16 &&& Int32.toUInt32 31)).toInt32) &&& 255)))) = f_1022 at h
              have k_1023 : f_1022 (X 1) = some (.inr (8, [.int (nI (n + 1)), .ref (X 11), .ref (X 12), .int 0, .int 0, .int 0, .int 0])) := by rw [← ef_1022]; exact hu_at k_983 (hne (1, 200) (4, 8) k_982 k_983 rfl rfl (by decide))
              have k_1024 : f_1022 (X 11) = some (.inl (G 1, 200, .inl (upd (upd w0 (Int32.toNatClampNeg (nI n)) (((p0.toUInt32 >>> (Int32.toUInt32 24 &&& Int32.toUInt32 31)).toInt32) &&& 255)) (Int32.toNatClampNeg (nI (n + 1))) (((p0.toUInt32 >>> (Int32.toUInt32 16 &&& Int32.toUInt32 31)).toInt32) &&& 255)))) := by rw [← ef_1022]; exact hu_self _ _ _
              refine lv_aload_n hx hb dX7_append_39 rfl (lv_at hl 2 rfl) ?_
              refine lv_dup hx hb dX7_append_40 rfl ?_
              refine q_get C h k_1023 fl_X7_18 (v := .int (nI (n + 1))) rfl dX7_append_41 ?_
              refine lv_iconst (v := 1) hx hb dX7_append_44 (by decide) ?_
              refine lv_iadd hx hb dX7_append_45 ?_
              refine lv_topi (fun x_ e_ => ?_)
              obtain rfl : nI (n + 1 + 1) = x_ := by rw [e_]; exact (nI_add (n + 1) (1)).symm
              refine q_put C h k_1023 flw_X7_18 (Or.inr ⟨_, _, _, rfl, rfl⟩) (v := .int (nI (n + 1 + 1))) rfl rfl (Nat.le_of_ble_eq_true rfl) dX7_append_46 (fun H locs h => ?_)
              have h : hw D b0 s.heap (hu f_1022 (X 1) (.inr (8, [.int (nI (n + 1 + 1)), .ref (X 11), .ref (X 12), .int 0, .int 0, .int 0, .int 0]))) H locs := h
              generalize ef_1025 : hu f_1022 (X 1) (.inr (8, [.int (nI (n + 1 + 1)), .ref (X 11), .ref (X 12), .int 0, .int 0, .int 0, .int 0])) = f_1025 at h
              have k_1026 : f_1025 (X 11) = some (.inl (G 1, 200, .inl (upd (upd w0 (Int32.toNatClampNeg (nI n)) (((p0.toUInt32 >>> (Int32.toUInt32 24 &&& Int32.toUInt32 31)).toInt32) &&& 255)) (Int32.toNatClampNeg (nI (n + 1))) (((p0.toUInt32 >>> (Int32.toUInt32 16 &&& Int32.toUInt32 31)).toInt32) &&& 255)))) := by rw [← ef_1025]; exact hu_at k_1024 (hne (4, 8) (1, 200) k_1023 k_1024 rfl rfl (by decide))
              have k_1027 : f_1025 (X 1) = some (.inr (8, [.int (nI (n + 1 + 1)), .ref (X 11), .ref (X 12), .int 0, .int 0, .int 0, .int 0])) := by rw [← ef_1025]; exact hu_self _ _ _
              refine lv_iinc (v := 8) (lv' := [(2, .int 8), (3, .int (((p0.toUInt32 >>> (Int32.toUInt32 16 &&& Int32.toUInt32 31)).toInt32) &&& 255)), (0, .ref (X 1)), (1, .int p0)]) hx hb dX7_append_49 hl (k := 1) rfl (by decide) (by decide) rfl (fun ls hl => ?_)
              refine lv_goto (tgt := 3) hx hb dX7_append_52 (by decide) ?_
              refine lv_iload_n hx hb dX7_append_3 rfl (lv_at hl 0 rfl) ?_
              refine lv_if_lt (tgt := 55) hx hb dX7_append_4 (by decide) (fun c_1028 => ?_) (fun c_1028 => ?_)
              · exact absurd c_1028 (by decide)
              · refine lv_iload_n hx hb dX7_append_7 rfl (lv_at hl 3 rfl) ?_
                refine lv_iload_n hx hb dX7_append_8 rfl (lv_at hl 0 rfl) ?_
                refine lv_iushr (v := (p0.toUInt32 >>> (Int32.toUInt32 8 &&& Int32.toUInt32 31)).toInt32) hx hb dX7_append_9 rfl ?_
                refine lv_sipush (v := 255) hx hb dX7_append_10 (by decide) ?_
                refine lv_iand hx hb dX7_append_13 ?_
                refine lv_istore_n (lv' := [(3, .int (((p0.toUInt32 >>> (Int32.toUInt32 8 &&& Int32.toUInt32 31)).toInt32) &&& 255)), (2, .int 8), (0, .ref (X 1)), (1, .int p0)]) hx hb dX7_append_14 rfl hl (by decide) rfl (fun ls hl => ?_)
                refine lv_iload_n hx hb dX7_append_15 rfl (lv_at hl 0 rfl) ?_
                refine lv_if_eq (tgt := 49) hx hb dX7_append_16 (by decide) (fun c_1029 => ?_) (fun c_1029 => ?_)
                · refine lv_iinc (v := 0) (lv' := [(2, .int 0), (3, .int (((p0.toUInt32 >>> (Int32.toUInt32 8 &&& Int32.toUInt32 31)).toInt32) &&& 255)), (0, .ref (X 1)), (1, .int p0)]) hx hb dX7_append_49 hl (k := 1) rfl (by decide) (by decide) rfl (fun ls hl => ?_)
                  refine lv_goto (tgt := 3) hx hb dX7_append_52 (by decide) ?_
                  refine lv_iload_n hx hb dX7_append_3 rfl (lv_at hl 0 rfl) ?_
                  refine lv_if_lt (tgt := 55) hx hb dX7_append_4 (by decide) (fun c_1030 => ?_) (fun c_1030 => ?_)
                  · exact absurd c_1030 (by decide)
                  · refine lv_iload_n hx hb dX7_append_7 rfl (lv_at hl 3 rfl) ?_
                    refine lv_iload_n hx hb dX7_append_8 rfl (lv_at hl 0 rfl) ?_
                    refine lv_iushr (v := (p0.toUInt32 >>> (Int32.toUInt32 0 &&& Int32.toUInt32 31)).toInt32) hx hb dX7_append_9 rfl ?_
                    refine lv_sipush (v := 255) hx hb dX7_append_10 (by decide) ?_
                    refine lv_iand hx hb dX7_append_13 ?_
                    refine lv_istore_n (lv' := [(3, .int (((p0.toUInt32 >>> (Int32.toUInt32 0 &&& Int32.toUInt32 31)).toInt32) &&& 255)), (2, .int 0), (0, .ref (X 1)), (1, .int p0)]) hx hb dX7_append_14 rfl hl (by decide) rfl (fun ls hl => ?_)
                    refine lv_iload_n hx hb dX7_append_15 rfl (lv_at hl 0 rfl) ?_
                    refine lv_if_eq (tgt := 49) hx hb dX7_append_16 (by decide) (fun c_1031 => ?_) (fun c_1031 => ?_)
                    · refine lv_iinc (v := -8) (lv' := [(2, .int (-8)), (3, .int (((p0.toUInt32 >>> (Int32.toUInt32 0 &&& Int32.toUInt32 31)).toInt32) &&& 255)), (0, .ref (X 1)), (1, .int p0)]) hx hb dX7_append_49 hl (k := 1) rfl (by decide) (by decide) rfl (fun ls hl => ?_)
                      refine lv_goto (tgt := 3) hx hb dX7_append_52 (by decide) ?_
                      refine lv_iload_n hx hb dX7_append_3 rfl (lv_at hl 0 rfl) ?_
                      refine lv_if_lt (tgt := 55) hx hb dX7_append_4 (by decide) (fun c_1032 => ?_) (fun c_1032 => ?_)
                      · exact q_vret C h hr (⟨by rw [show n + nzN p0 = n + 1 + 1 from (by unfold nzN nz1 ub; rw [if_neg c_897, if_neg c_985, if_pos c_1029, if_pos c_1031]; try omega)]; exact k_1027, ⟨_, k_1026⟩, fun q h1 h2 => (((((congrFun ef_1025.symm q).trans (hu_ne h1)).trans ((congrFun ef_1022.symm q).trans (hu_ne h2))).trans ((congrFun ef_981.symm q).trans (hu_ne h1))).trans ((congrFun ef_978.symm q).trans (hu_ne h2)))⟩) (Nat.le_of_ble_eq_true rfl) (Nat.le_of_ble_eq_true rfl) dX7_append_55
                      · exact absurd c_1032 (by decide)
                    · refine lv_aload_n hx hb dX7_append_19 rfl (lv_at hl 2 rfl) ?_
                      refine q_get C h k_1027 fl_X7_18 (v := .int (nI (n + 1 + 1))) rfl dX7_append_20 ?_
                      refine lv_sipush (v := 200) hx hb dX7_append_23 (by decide) ?_
                      refine lv_icmp_ge (tgt := 49) hx hb dX7_append_26 (by decide) (fun c_1033 => ?_) (fun c_1033 => ?_)
                      · exact absurd c_1033 (nle200 (by omega))
                      · refine lv_aload_n hx hb dX7_append_29 rfl (lv_at hl 2 rfl) ?_
                        refine q_get C h k_1027 fl_X7_11 (v := .ref (X 11)) rfl dX7_append_30 ?_
                        refine lv_aload_n hx hb dX7_append_33 rfl (lv_at hl 2 rfl) ?_
                        refine q_get C h k_1027 fl_X7_18 (v := .int (nI (n + 1 + 1))) rfl dX7_append_34 ?_
                        refine lv_iload_n hx hb dX7_append_37 rfl (lv_at hl 0 rfl) ?_
                        refine q_iast C h k_1026 (vp_in_nI (by omega) (by decide)) dX7_append_38 (fun H locs h => ?_)
                        generalize ef_1035 : hu f_1025 (X 11) (.inl (G 1, 200, .inl (upd (upd (upd w0 (Int32.toNatClampNeg (nI n)) (((p0.toUInt32 >>> (Int32.toUInt32 24 &&& Int32.toUInt32 31)).toInt32) &&& 255)) (Int32.toNatClampNeg (nI (n + 1))) (((p0.toUInt32 >>> (Int32.toUInt32 16 &&& Int32.toUInt32 31)).toInt32) &&& 255)) (Int32.toNatClampNeg (nI (n + 1 + 1))) (((p0.toUInt32 >>> (Int32.toUInt32 0 &&& Int32.toUInt32 31)).toInt32) &&& 255)))) = f_1035 at h
                        have k_1036 : f_1035 (X 1) = some (.inr (8, [.int (nI (n + 1 + 1)), .ref (X 11), .ref (X 12), .int 0, .int 0, .int 0, .int 0])) := by rw [← ef_1035]; exact hu_at k_1027 (hne (1, 200) (4, 8) k_1026 k_1027 rfl rfl (by decide))
                        have k_1037 : f_1035 (X 11) = some (.inl (G 1, 200, .inl (upd (upd (upd w0 (Int32.toNatClampNeg (nI n)) (((p0.toUInt32 >>> (Int32.toUInt32 24 &&& Int32.toUInt32 31)).toInt32) &&& 255)) (Int32.toNatClampNeg (nI (n + 1))) (((p0.toUInt32 >>> (Int32.toUInt32 16 &&& Int32.toUInt32 31)).toInt32) &&& 255)) (Int32.toNatClampNeg (nI (n + 1 + 1))) (((p0.toUInt32 >>> (Int32.toUInt32 0 &&& Int32.toUInt32 31)).toInt32) &&& 255)))) := by rw [← ef_1035]; exact hu_self _ _ _
                        refine lv_aload_n hx hb dX7_append_39 rfl (lv_at hl 2 rfl) ?_
                        refine lv_dup hx hb dX7_append_40 rfl ?_
                        refine q_get C h k_1036 fl_X7_18 (v := .int (nI (n + 1 + 1))) rfl dX7_append_41 ?_
                        refine lv_iconst (v := 1) hx hb dX7_append_44 (by decide) ?_
                        refine lv_iadd hx hb dX7_append_45 ?_
                        refine lv_topi (fun x_ e_ => ?_)
                        obtain rfl : nI (n + 1 + 1 + 1) = x_ := by rw [e_]; exact (nI_add (n + 1 + 1) (1)).symm
                        refine q_put C h k_1036 flw_X7_18 (Or.inr ⟨_, _, _, rfl, rfl⟩) (v := .int (nI (n + 1 + 1 + 1))) rfl rfl (Nat.le_of_ble_eq_true rfl) dX7_append_46 (fun H locs h => ?_)
                        have h : hw D b0 s.heap (hu f_1035 (X 1) (.inr (8, [.int (nI (n + 1 + 1 + 1)), .ref (X 11), .ref (X 12), .int 0, .int 0, .int 0, .int 0]))) H locs := h
                        generalize ef_1038 : hu f_1035 (X 1) (.inr (8, [.int (nI (n + 1 + 1 + 1)), .ref (X 11), .ref (X 12), .int 0, .int 0, .int 0, .int 0])) = f_1038 at h
                        have k_1039 : f_1038 (X 11) = some (.inl (G 1, 200, .inl (upd (upd (upd w0 (Int32.toNatClampNeg (nI n)) (((p0.toUInt32 >>> (Int32.toUInt32 24 &&& Int32.toUInt32 31)).toInt32) &&& 255)) (Int32.toNatClampNeg (nI (n + 1))) (((p0.toUInt32 >>> (Int32.toUInt32 16 &&& Int32.toUInt32 31)).toInt32) &&& 255)) (Int32.toNatClampNeg (nI (n + 1 + 1))) (((p0.toUInt32 >>> (Int32.toUInt32 0 &&& Int32.toUInt32 31)).toInt32) &&& 255)))) := by rw [← ef_1038]; exact hu_at k_1037 (hne (4, 8) (1, 200) k_1036 k_1037 rfl rfl (by decide))
                        have k_1040 : f_1038 (X 1) = some (.inr (8, [.int (nI (n + 1 + 1 + 1)), .ref (X 11), .ref (X 12), .int 0, .int 0, .int 0, .int 0])) := by rw [← ef_1038]; exact hu_self _ _ _
                        refine lv_iinc (v := -8) (lv' := [(2, .int (-8)), (3, .int (((p0.toUInt32 >>> (Int32.toUInt32 0 &&& Int32.toUInt32 31)).toInt32) &&& 255)), (0, .ref (X 1)), (1, .int p0)]) hx hb dX7_append_49 hl (k := 1) rfl (by decide) (by decide) rfl (fun ls hl => ?_)
                        refine lv_goto (tgt := 3) hx hb dX7_append_52 (by decide) ?_
                        refine lv_iload_n hx hb dX7_append_3 rfl (lv_at hl 0 rfl) ?_
                        refine lv_if_lt (tgt := 55) hx hb dX7_append_4 (by decide) (fun c_1041 => ?_) (fun c_1041 => ?_)
                        · exact q_vret C h hr (⟨by rw [show n + nzN p0 = n + 1 + 1 + 1 from (by unfold nzN nz1 ub; rw [if_neg c_897, if_neg c_985, if_pos c_1029, if_neg c_1031]; try omega)]; exact k_1040, ⟨_, k_1039⟩, fun q h1 h2 => (((((((congrFun ef_1038.symm q).trans (hu_ne h1)).trans ((congrFun ef_1035.symm q).trans (hu_ne h2))).trans ((congrFun ef_1025.symm q).trans (hu_ne h1))).trans ((congrFun ef_1022.symm q).trans (hu_ne h2))).trans ((congrFun ef_981.symm q).trans (hu_ne h1))).trans ((congrFun ef_978.symm q).trans (hu_ne h2)))⟩) (Nat.le_of_ble_eq_true rfl) (Nat.le_of_ble_eq_true rfl) dX7_append_55
                        · exact absurd c_1041 (by decide)
                · refine lv_aload_n hx hb dX7_append_19 rfl (lv_at hl 2 rfl) ?_
                  refine q_get C h k_1027 fl_X7_18 (v := .int (nI (n + 1 + 1))) rfl dX7_append_20 ?_
                  refine lv_sipush (v := 200) hx hb dX7_append_23 (by decide) ?_
                  refine lv_icmp_ge (tgt := 49) hx hb dX7_append_26 (by decide) (fun c_1042 => ?_) (fun c_1042 => ?_)
                  · exact absurd c_1042 (nle200 (by omega))
                  · refine lv_aload_n hx hb dX7_append_29 rfl (lv_at hl 2 rfl) ?_
                    refine q_get C h k_1027 fl_X7_11 (v := .ref (X 11)) rfl dX7_append_30 ?_
                    refine lv_aload_n hx hb dX7_append_33 rfl (lv_at hl 2 rfl) ?_
                    refine q_get C h k_1027 fl_X7_18 (v := .int (nI (n + 1 + 1))) rfl dX7_append_34 ?_
                    refine lv_iload_n hx hb dX7_append_37 rfl (lv_at hl 0 rfl) ?_
                    refine q_iast C h k_1026 (vp_in_nI (by omega) (by decide)) dX7_append_38 (fun H locs h => ?_)
                    generalize ef_1044 : hu f_1025 (X 11) (.inl (G 1, 200, .inl (upd (upd (upd w0 (Int32.toNatClampNeg (nI n)) (((p0.toUInt32 >>> (Int32.toUInt32 24 &&& Int32.toUInt32 31)).toInt32) &&& 255)) (Int32.toNatClampNeg (nI (n + 1))) (((p0.toUInt32 >>> (Int32.toUInt32 16 &&& Int32.toUInt32 31)).toInt32) &&& 255)) (Int32.toNatClampNeg (nI (n + 1 + 1))) (((p0.toUInt32 >>> (Int32.toUInt32 8 &&& Int32.toUInt32 31)).toInt32) &&& 255)))) = f_1044 at h
                    have k_1045 : f_1044 (X 1) = some (.inr (8, [.int (nI (n + 1 + 1)), .ref (X 11), .ref (X 12), .int 0, .int 0, .int 0, .int 0])) := by rw [← ef_1044]; exact hu_at k_1027 (hne (1, 200) (4, 8) k_1026 k_1027 rfl rfl (by decide))
                    have k_1046 : f_1044 (X 11) = some (.inl (G 1, 200, .inl (upd (upd (upd w0 (Int32.toNatClampNeg (nI n)) (((p0.toUInt32 >>> (Int32.toUInt32 24 &&& Int32.toUInt32 31)).toInt32) &&& 255)) (Int32.toNatClampNeg (nI (n + 1))) (((p0.toUInt32 >>> (Int32.toUInt32 16 &&& Int32.toUInt32 31)).toInt32) &&& 255)) (Int32.toNatClampNeg (nI (n + 1 + 1))) (((p0.toUInt32 >>> (Int32.toUInt32 8 &&& Int32.toUInt32 31)).toInt32) &&& 255)))) := by rw [← ef_1044]; exact hu_self _ _ _
                    refine lv_aload_n hx hb dX7_append_39 rfl (lv_at hl 2 rfl) ?_
                    refine lv_dup hx hb dX7_append_40 rfl ?_
                    refine q_get C h k_1045 fl_X7_18 (v := .int (nI (n + 1 + 1))) rfl dX7_append_41 ?_
                    refine lv_iconst (v := 1) hx hb dX7_append_44 (by decide) ?_
                    refine lv_iadd hx hb dX7_append_45 ?_
                    refine lv_topi (fun x_ e_ => ?_)
                    obtain rfl : nI (n + 1 + 1 + 1) = x_ := by rw [e_]; exact (nI_add (n + 1 + 1) (1)).symm
                    refine q_put C h k_1045 flw_X7_18 (Or.inr ⟨_, _, _, rfl, rfl⟩) (v := .int (nI (n + 1 + 1 + 1))) rfl rfl (Nat.le_of_ble_eq_true rfl) dX7_append_46 (fun H locs h => ?_)
                    have h : hw D b0 s.heap (hu f_1044 (X 1) (.inr (8, [.int (nI (n + 1 + 1 + 1)), .ref (X 11), .ref (X 12), .int 0, .int 0, .int 0, .int 0]))) H locs := h
                    generalize ef_1047 : hu f_1044 (X 1) (.inr (8, [.int (nI (n + 1 + 1 + 1)), .ref (X 11), .ref (X 12), .int 0, .int 0, .int 0, .int 0])) = f_1047 at h
                    have k_1048 : f_1047 (X 11) = some (.inl (G 1, 200, .inl (upd (upd (upd w0 (Int32.toNatClampNeg (nI n)) (((p0.toUInt32 >>> (Int32.toUInt32 24 &&& Int32.toUInt32 31)).toInt32) &&& 255)) (Int32.toNatClampNeg (nI (n + 1))) (((p0.toUInt32 >>> (Int32.toUInt32 16 &&& Int32.toUInt32 31)).toInt32) &&& 255)) (Int32.toNatClampNeg (nI (n + 1 + 1))) (((p0.toUInt32 >>> (Int32.toUInt32 8 &&& Int32.toUInt32 31)).toInt32) &&& 255)))) := by rw [← ef_1047]; exact hu_at k_1046 (hne (4, 8) (1, 200) k_1045 k_1046 rfl rfl (by decide))
                    have k_1049 : f_1047 (X 1) = some (.inr (8, [.int (nI (n + 1 + 1 + 1)), .ref (X 11), .ref (X 12), .int 0, .int 0, .int 0, .int 0])) := by rw [← ef_1047]; exact hu_self _ _ _
                    refine lv_iinc (v := 0) (lv' := [(2, .int 0), (3, .int (((p0.toUInt32 >>> (Int32.toUInt32 8 &&& Int32.toUInt32 31)).toInt32) &&& 255)), (0, .ref (X 1)), (1, .int p0)]) hx hb dX7_append_49 hl (k := 1) rfl (by decide) (by decide) rfl (fun ls hl => ?_)
                    refine lv_goto (tgt := 3) hx hb dX7_append_52 (by decide) ?_
                    refine lv_iload_n hx hb dX7_append_3 rfl (lv_at hl 0 rfl) ?_
                    refine lv_if_lt (tgt := 55) hx hb dX7_append_4 (by decide) (fun c_1050 => ?_) (fun c_1050 => ?_)
                    · exact absurd c_1050 (by decide)
                    · refine lv_iload_n hx hb dX7_append_7 rfl (lv_at hl 3 rfl) ?_
                      refine lv_iload_n hx hb dX7_append_8 rfl (lv_at hl 0 rfl) ?_
                      refine lv_iushr (v := (p0.toUInt32 >>> (Int32.toUInt32 0 &&& Int32.toUInt32 31)).toInt32) hx hb dX7_append_9 rfl ?_
                      refine lv_sipush (v := 255) hx hb dX7_append_10 (by decide) ?_
                      refine lv_iand hx hb dX7_append_13 ?_
                      refine lv_istore_n (lv' := [(3, .int (((p0.toUInt32 >>> (Int32.toUInt32 0 &&& Int32.toUInt32 31)).toInt32) &&& 255)), (2, .int 0), (0, .ref (X 1)), (1, .int p0)]) hx hb dX7_append_14 rfl hl (by decide) rfl (fun ls hl => ?_)
                      refine lv_iload_n hx hb dX7_append_15 rfl (lv_at hl 0 rfl) ?_
                      refine lv_if_eq (tgt := 49) hx hb dX7_append_16 (by decide) (fun c_1051 => ?_) (fun c_1051 => ?_)
                      · refine lv_iinc (v := -8) (lv' := [(2, .int (-8)), (3, .int (((p0.toUInt32 >>> (Int32.toUInt32 0 &&& Int32.toUInt32 31)).toInt32) &&& 255)), (0, .ref (X 1)), (1, .int p0)]) hx hb dX7_append_49 hl (k := 1) rfl (by decide) (by decide) rfl (fun ls hl => ?_)
                        refine lv_goto (tgt := 3) hx hb dX7_append_52 (by decide) ?_
                        refine lv_iload_n hx hb dX7_append_3 rfl (lv_at hl 0 rfl) ?_
                        refine lv_if_lt (tgt := 55) hx hb dX7_append_4 (by decide) (fun c_1052 => ?_) (fun c_1052 => ?_)
                        · exact q_vret C h hr (⟨by rw [show n + nzN p0 = n + 1 + 1 + 1 from (by unfold nzN nz1 ub; rw [if_neg c_897, if_neg c_985, if_neg c_1029, if_pos c_1051]; try omega)]; exact k_1049, ⟨_, k_1048⟩, fun q h1 h2 => (((((((congrFun ef_1047.symm q).trans (hu_ne h1)).trans ((congrFun ef_1044.symm q).trans (hu_ne h2))).trans ((congrFun ef_1025.symm q).trans (hu_ne h1))).trans ((congrFun ef_1022.symm q).trans (hu_ne h2))).trans ((congrFun ef_981.symm q).trans (hu_ne h1))).trans ((congrFun ef_978.symm q).trans (hu_ne h2)))⟩) (Nat.le_of_ble_eq_true rfl) (Nat.le_of_ble_eq_true rfl) dX7_append_55
                        · exact absurd c_1052 (by decide)
                      · refine lv_aload_n hx hb dX7_append_19 rfl (lv_at hl 2 rfl) ?_
                        refine q_get C h k_1049 fl_X7_18 (v := .int (nI (n + 1 + 1 + 1))) rfl dX7_append_20 ?_
                        refine lv_sipush (v := 200) hx hb dX7_append_23 (by decide) ?_
                        refine lv_icmp_ge (tgt := 49) hx hb dX7_append_26 (by decide) (fun c_1053 => ?_) (fun c_1053 => ?_)
                        · exact absurd c_1053 (nle200 (by omega))
                        · refine lv_aload_n hx hb dX7_append_29 rfl (lv_at hl 2 rfl) ?_
                          refine q_get C h k_1049 fl_X7_11 (v := .ref (X 11)) rfl dX7_append_30 ?_
                          refine lv_aload_n hx hb dX7_append_33 rfl (lv_at hl 2 rfl) ?_
                          refine q_get C h k_1049 fl_X7_18 (v := .int (nI (n + 1 + 1 + 1))) rfl dX7_append_34 ?_
                          refine lv_iload_n hx hb dX7_append_37 rfl (lv_at hl 0 rfl) ?_
                          refine q_iast C h k_1048 (vp_in_nI (by omega) (by decide)) dX7_append_38 (fun H locs h => ?_)
                          generalize ef_1055 : hu f_1047 (X 11) (.inl (G 1, 200, .inl (upd (upd (upd (upd w0 (Int32.toNatClampNeg (nI n)) (((p0.toUInt32 >>> (Int32.toUInt32 24 &&& Int32.toUInt32 31)).toInt32) &&& 255)) (Int32.toNatClampNeg (nI (n + 1))) (((p0.toUInt32 >>> (Int32.toUInt32 16 &&& Int32.toUInt32 31)).toInt32) &&& 255)) (Int32.toNatClampNeg (nI (n + 1 + 1))) (((p0.toUInt32 >>> (Int32.toUInt32 8 &&& Int32.toUInt32 31)).toInt32) &&& 255)) (Int32.toNatClampNeg (nI (n + 1 + 1 + 1))) (((p0.toUInt32 >>> (Int32.toUInt32 0 &&& Int32.toUInt32 31)).toInt32) &&& 255)))) = f_1055 at h
                          have k_1056 : f_1055 (X 1) = some (.inr (8, [.int (nI (n + 1 + 1 + 1)), .ref (X 11), .ref (X 12), .int 0, .int 0, .int 0, .int 0])) := by rw [← ef_1055]; exact hu_at k_1049 (hne (1, 200) (4, 8) k_1048 k_1049 rfl rfl (by decide))
                          have k_1057 : f_1055 (X 11) = some (.inl (G 1, 200, .inl (upd (upd (upd (upd w0 (Int32.toNatClampNeg (nI n)) (((p0.toUInt32 >>> (Int32.toUInt32 24 &&& Int32.toUInt32 31)).toInt32) &&& 255)) (Int32.toNatClampNeg (nI (n + 1))) (((p0.toUInt32 >>> (Int32.toUInt32 16 &&& Int32.toUInt32 31)).toInt32) &&& 255)) (Int32.toNatClampNeg (nI (n + 1 + 1))) (((p0.toUInt32 >>> (Int32.toUInt32 8 &&& Int32.toUInt32 31)).toInt32) &&& 255)) (Int32.toNatClampNeg (nI (n + 1 + 1 + 1))) (((p0.toUInt32 >>> (Int32.toUInt32 0 &&& Int32.toUInt32 31)).toInt32) &&& 255)))) := by rw [← ef_1055]; exact hu_self _ _ _
                          refine lv_aload_n hx hb dX7_append_39 rfl (lv_at hl 2 rfl) ?_
                          refine lv_dup hx hb dX7_append_40 rfl ?_
                          refine q_get C h k_1056 fl_X7_18 (v := .int (nI (n + 1 + 1 + 1))) rfl dX7_append_41 ?_
                          refine lv_iconst (v := 1) hx hb dX7_append_44 (by decide) ?_
                          refine lv_iadd hx hb dX7_append_45 ?_
                          refine lv_topi (fun x_ e_ => ?_)
                          obtain rfl : nI (n + 1 + 1 + 1 + 1) = x_ := by rw [e_]; exact (nI_add (n + 1 + 1 + 1) (1)).symm
                          refine q_put C h k_1056 flw_X7_18 (Or.inr ⟨_, _, _, rfl, rfl⟩) (v := .int (nI (n + 1 + 1 + 1 + 1))) rfl rfl (Nat.le_of_ble_eq_true rfl) dX7_append_46 (fun H locs h => ?_)
                          have h : hw D b0 s.heap (hu f_1055 (X 1) (.inr (8, [.int (nI (n + 1 + 1 + 1 + 1)), .ref (X 11), .ref (X 12), .int 0, .int 0, .int 0, .int 0]))) H locs := h
                          generalize ef_1058 : hu f_1055 (X 1) (.inr (8, [.int (nI (n + 1 + 1 + 1 + 1)), .ref (X 11), .ref (X 12), .int 0, .int 0, .int 0, .int 0])) = f_1058 at h
                          have k_1059 : f_1058 (X 11) = some (.inl (G 1, 200, .inl (upd (upd (upd (upd w0 (Int32.toNatClampNeg (nI n)) (((p0.toUInt32 >>> (Int32.toUInt32 24 &&& Int32.toUInt32 31)).toInt32) &&& 255)) (Int32.toNatClampNeg (nI (n + 1))) (((p0.toUInt32 >>> (Int32.toUInt32 16 &&& Int32.toUInt32 31)).toInt32) &&& 255)) (Int32.toNatClampNeg (nI (n + 1 + 1))) (((p0.toUInt32 >>> (Int32.toUInt32 8 &&& Int32.toUInt32 31)).toInt32) &&& 255)) (Int32.toNatClampNeg (nI (n + 1 + 1 + 1))) (((p0.toUInt32 >>> (Int32.toUInt32 0 &&& Int32.toUInt32 31)).toInt32) &&& 255)))) := by rw [← ef_1058]; exact hu_at k_1057 (hne (4, 8) (1, 200) k_1056 k_1057 rfl rfl (by decide))
                          have k_1060 : f_1058 (X 1) = some (.inr (8, [.int (nI (n + 1 + 1 + 1 + 1)), .ref (X 11), .ref (X 12), .int 0, .int 0, .int 0, .int 0])) := by rw [← ef_1058]; exact hu_self _ _ _
                          refine lv_iinc (v := -8) (lv' := [(2, .int (-8)), (3, .int (((p0.toUInt32 >>> (Int32.toUInt32 0 &&& Int32.toUInt32 31)).toInt32) &&& 255)), (0, .ref (X 1)), (1, .int p0)]) hx hb dX7_append_49 hl (k := 1) rfl (by decide) (by decide) rfl (fun ls hl => ?_)
                          refine lv_goto (tgt := 3) hx hb dX7_append_52 (by decide) ?_
                          refine lv_iload_n hx hb dX7_append_3 rfl (lv_at hl 0 rfl) ?_
                          refine lv_if_lt (tgt := 55) hx hb dX7_append_4 (by decide) (fun c_1061 => ?_) (fun c_1061 => ?_)
                          · exact q_vret C h hr (⟨by rw [show n + nzN p0 = n + 1 + 1 + 1 + 1 from (by unfold nzN nz1 ub; rw [if_neg c_897, if_neg c_985, if_neg c_1029, if_neg c_1051]; try omega)]; exact k_1060, ⟨_, k_1059⟩, fun q h1 h2 => (((((((((congrFun ef_1058.symm q).trans (hu_ne h1)).trans ((congrFun ef_1055.symm q).trans (hu_ne h2))).trans ((congrFun ef_1047.symm q).trans (hu_ne h1))).trans ((congrFun ef_1044.symm q).trans (hu_ne h2))).trans ((congrFun ef_1025.symm q).trans (hu_ne h1))).trans ((congrFun ef_1022.symm q).trans (hu_ne h2))).trans ((congrFun ef_981.symm q).trans (hu_ne h1))).trans ((congrFun ef_978.symm q).trans (hu_ne h2)))⟩) (Nat.le_of_ble_eq_true rfl) (Nat.le_of_ble_eq_true rfl) dX7_append_55
                          · exact absurd c_1061 (by decide)
set_option maxRecDepth 100000 in
set_option maxHeartbeats 4000000 in
theorem c_X10_feed (l : Launch) (D : va_G) (G : Nat → Nat) (b0 : Nat) (f : hM) (X : Nat → Nat) (hX : xw G f X) (p0 : Int32) (p1 : Int32) (p2 : Int32) (p3 : Int32) (p4 : Int32) : mI l yX10_feed cX10_feed 7 (.int) { frames := 1, cells := 0, slots := 0, locals := 23 } D G b0 f [.ref (X 0), .int p0, .int p1, .int p2, .int p3, .int p4] (fun r f1 => (Vfeed p0 p1 p2 p3 p4 : Int32) = r ∧ ∀ q, (∀ i, i ∈ XI → q ≠ X i) → f1 q = f q) := by
  refine met_of (own := RX10) (by decide) rfl (Nat.le_of_ble_eq_true rfl) ?_
  intro p e s m below meth c ls C hr hini hl h
  have hl : lv_has ls 7 [(0, .ref (X 0)), (1, .int p0), (2, .int p1), (3, .int p2), (4, .int p3), (5, .int p4)] := hl
  obtain ⟨hx, hb, hml, hown, hts, hE0, hlk⟩ := id C
  obtain ⟨kx0, kx1, kx2, kx3, kx4, kx5, kx6, kx7, kx8, kx9⟩ := hX
  refine lv_iload_n hx hb dX10_feed_0 rfl (lv_at hl 1 rfl) ?_
  refine k_i (r_S C h hl (As := [.int p0]) (rest := []) (c_X7_filled l D G b0 f  p0) mk_X7_filled w_414 w_415 w_416 ⟨Nat.le_of_ble_eq_true rfl, Nat.le_of_ble_eq_true rfl⟩ rfl (Nat.le_of_ble_eq_true rfl) ⟨Nat.le_of_ble_eq_true rfl, Nat.le_of_ble_eq_true rfl⟩ rfl dX10_feed_1) h (fun r_1062 f_1063 H locs p_1064 h => ?_)
  obtain ⟨e_, rfl⟩ := p_1064
  subst e_
  refine lv_iload_n hx hb dX10_feed_4 rfl (lv_at hl 2 rfl) ?_
  refine k_i (r_S C h hl (As := [.int p1]) (rest := [.int (nI (nzN p0))]) (c_X7_filled l D G b0 f  p1) mk_X7_filled w_414 w_415 w_416 ⟨Nat.le_of_ble_eq_true rfl, Nat.le_of_ble_eq_true rfl⟩ rfl (Nat.le_of_ble_eq_true rfl) ⟨Nat.le_of_ble_eq_true rfl, Nat.le_of_ble_eq_true rfl⟩ rfl dX10_feed_5) h (fun r_1065 f_1066 H locs p_1067 h => ?_)
  obtain ⟨e_, rfl⟩ := p_1067
  subst e_
  refine lv_iadd hx hb dX10_feed_8 ?_
  refine lv_topi (fun x_ e_ => ?_)
  obtain rfl : nI (nzN p0 + (nzN p1)) = x_ := by rw [e_]; exact (nI_add (nzN p0) (nzN p1)).symm
  refine lv_iload_n hx hb dX10_feed_9 rfl (lv_at hl 3 rfl) ?_
  refine k_i (r_S C h hl (As := [.int p2]) (rest := [.int (nI (nzN p0 + (nzN p1)))]) (c_X7_filled l D G b0 f  p2) mk_X7_filled w_414 w_415 w_416 ⟨Nat.le_of_ble_eq_true rfl, Nat.le_of_ble_eq_true rfl⟩ rfl (Nat.le_of_ble_eq_true rfl) ⟨Nat.le_of_ble_eq_true rfl, Nat.le_of_ble_eq_true rfl⟩ rfl dX10_feed_10) h (fun r_1068 f_1069 H locs p_1070 h => ?_)
  obtain ⟨e_, rfl⟩ := p_1070
  subst e_
  refine lv_iadd hx hb dX10_feed_13 ?_
  refine lv_topi (fun x_ e_ => ?_)
  obtain rfl : nI (nzN p0 + (nzN p1) + (nzN p2)) = x_ := by rw [e_]; exact (nI_add (nzN p0 + (nzN p1)) (nzN p2)).symm
  refine lv_iload hx hb dX10_feed_14 (lv_at hl 4 rfl) ?_
  refine k_i (r_S C h hl (As := [.int p3]) (rest := [.int (nI (nzN p0 + (nzN p1) + (nzN p2)))]) (c_X7_filled l D G b0 f  p3) mk_X7_filled w_414 w_415 w_416 ⟨Nat.le_of_ble_eq_true rfl, Nat.le_of_ble_eq_true rfl⟩ rfl (Nat.le_of_ble_eq_true rfl) ⟨Nat.le_of_ble_eq_true rfl, Nat.le_of_ble_eq_true rfl⟩ rfl dX10_feed_16) h (fun r_1071 f_1072 H locs p_1073 h => ?_)
  obtain ⟨e_, rfl⟩ := p_1073
  subst e_
  refine lv_iadd hx hb dX10_feed_19 ?_
  refine lv_topi (fun x_ e_ => ?_)
  obtain rfl : nI (nzN p0 + (nzN p1) + (nzN p2) + (nzN p3)) = x_ := by rw [e_]; exact (nI_add (nzN p0 + (nzN p1) + (nzN p2)) (nzN p3)).symm
  refine lv_iload hx hb dX10_feed_20 (lv_at hl 5 rfl) ?_
  refine k_i (r_S C h hl (As := [.int p4]) (rest := [.int (nI (nzN p0 + (nzN p1) + (nzN p2) + (nzN p3)))]) (c_X7_filled l D G b0 f  p4) mk_X7_filled w_414 w_415 w_416 ⟨Nat.le_of_ble_eq_true rfl, Nat.le_of_ble_eq_true rfl⟩ rfl (Nat.le_of_ble_eq_true rfl) ⟨Nat.le_of_ble_eq_true rfl, Nat.le_of_ble_eq_true rfl⟩ rfl dX10_feed_22) h (fun r_1074 f_1075 H locs p_1076 h => ?_)
  obtain ⟨e_, rfl⟩ := p_1076
  subst e_
  refine lv_iadd hx hb dX10_feed_25 ?_
  refine lv_topi (fun x_ e_ => ?_)
  obtain rfl : nI (nzN p0 + (nzN p1) + (nzN p2) + (nzN p3) + (nzN p4)) = x_ := by rw [e_]; exact (nI_add (nzN p0 + (nzN p1) + (nzN p2) + (nzN p3)) (nzN p4)).symm
  refine lv_istore (lv' := [(6, .int (nI (nzN p0 + (nzN p1) + (nzN p2) + (nzN p3) + (nzN p4)))), (0, .ref (X 0)), (1, .int p0), (2, .int p1), (3, .int p2), (4, .int p3), (5, .int p4)]) hx hb dX10_feed_26 hl (by decide) rfl (fun ls hl => ?_)
  refine lv_aload_n hx hb dX10_feed_28 rfl (lv_at hl 1 rfl) ?_
  refine q_get C h kx0 fl_X10_12 (v := .ref (X 1)) rfl dX10_feed_29 ?_
  refine q_get C h kx1 fl_X10_79 (v := .int 0) rfl dX10_feed_32 ?_
  refine lv_iload hx hb dX10_feed_35 (lv_at hl 0 rfl) ?_
  refine lv_iadd hx hb dX10_feed_37 ?_
  refine lv_topi (fun x_ e_ => ?_)
  obtain rfl : nI (0 + (nzN p0 + (nzN p1) + (nzN p2) + (nzN p3) + (nzN p4))) = x_ := by rw [e_]; exact (nI_add (0) (nzN p0 + (nzN p1) + (nzN p2) + (nzN p3) + (nzN p4))).symm
  refine lv_sipush (v := 200) hx hb dX10_feed_38 (by decide) ?_
  refine lv_icmp_le (tgt := 46) hx hb dX10_feed_41 (by decide) (fun c_1077 => ?_) (fun c_1077 => ?_)
  · refine lv_aload_n hx hb dX10_feed_46 rfl (lv_at hl 1 rfl) ?_
    refine q_get C h kx0 fl_X10_12 (v := .ref (X 1)) rfl dX10_feed_47 ?_
    refine lv_iload_n hx hb dX10_feed_50 rfl (lv_at hl 2 rfl) ?_
    refine k_v (r_V C h hl (As := [.int p0]) (rest := []) (c_X7_append l D G b0 f X (0) (by have := nzN_le p0; have := nzN_le p1; have := nzN_le p2; have := nzN_le p3; have := nzN_le p4; omega) (fun _ => 0) kx1 kx4 p0) kx1 (Cn := RX7) (T := TX7) (N := 7) rfl rfl mk_X7_append w_417 w_418 w_419 w_420 ⟨Nat.le_of_ble_eq_true rfl, Nat.le_of_ble_eq_true rfl⟩ rfl (Nat.le_of_ble_eq_true rfl) ⟨Nat.le_of_ble_eq_true rfl, Nat.le_of_ble_eq_true rfl⟩ rfl dX10_feed_51) h (fun f_1079 H locs p_1080 h => ?_)
    obtain ⟨k_1082, ⟨w_1081, k_1083⟩, p_1080⟩ := p_1080
    have k_1084 : f_1079 (X 0) = some (.inr (11, [.ref (X 1), .ref (X 2), .ref (X 3), .ref (X 4), .ref (X 5), .ref (X 6), .ref (X 7), .ref (X 8), .ref (X 9), .ref (X 10)])) := (p_1080 _ (hne (4, 8) (4, 11) kx1 kx0 rfl rfl (by decide)) (hne (1, 200) (4, 11) kx4 kx0 rfl rfl (by decide))).trans kx0
    have k_1085 : f_1079 (X 2) = some (.inr (1, [.int 0, .ref (X 13), .ref (X 14), .ref (X 15), .int 0, .int 0])) := (p_1080 _ (hne (4, 8) (4, 1) kx1 kx2 rfl rfl (by decide)) (hne (1, 200) (4, 1) kx4 kx2 rfl rfl (by decide))).trans kx2
    have k_1086 : f_1079 (X 8) = some (.inl (G 1, 4, .inl (fun _ => 0))) := (p_1080 _ (hne (4, 8) (1, 4) kx1 kx3 rfl rfl (by decide)) (hne (1, 200) (1, 4) kx4 kx3 rfl rfl (by decide))).trans kx3
    have k_1087 : f_1079 (X 12) = some (.inl (G 1, 8, .inl (fun _ => 0))) := (p_1080 _ (hne (4, 8) (1, 8) kx1 kx5 rfl rfl (by decide)) (hne (1, 200) (1, 8) kx4 kx5 rfl rfl (by decide))).trans kx5
    have k_1088 : f_1079 (X 13) = some (.inr (6, [.ref (X 16), .int 0])) := (p_1080 _ (hne (4, 8) (4, 6) kx1 kx6 rfl rfl (by decide)) (hne (1, 200) (4, 6) kx4 kx6 rfl rfl (by decide))).trans kx6
    have k_1089 : f_1079 (X 14) = some (.inr (6, [.ref (X 17), .int 0])) := (p_1080 _ (hne (4, 8) (4, 6) kx1 kx7 rfl rfl (by decide)) (hne (1, 200) (4, 6) kx4 kx7 rfl rfl (by decide))).trans kx7
    have k_1090 : f_1079 (X 16) = some (.inl (G 4, 8, .inr (.inr (.inr (.inr (fun _ => none)))))) := (p_1080 _ (hne (4, 8) (3, 8) kx1 kx8 rfl rfl (by decide)) (hne (1, 200) (3, 8) kx4 kx8 rfl rfl (by decide))).trans kx8
    have k_1091 : f_1079 (X 17) = some (.inl (G 4, 8, .inr (.inr (.inr (.inr (fun _ => none)))))) := (p_1080 _ (hne (4, 8) (3, 8) kx1 kx9 rfl rfl (by decide)) (hne (1, 200) (3, 8) kx4 kx9 rfl rfl (by decide))).trans kx9
    refine lv_aload_n hx hb dX10_feed_54 rfl (lv_at hl 1 rfl) ?_
    refine q_get C h k_1084 fl_X10_12 (v := .ref (X 1)) rfl dX10_feed_55 ?_
    refine lv_iload_n hx hb dX10_feed_58 rfl (lv_at hl 3 rfl) ?_
    refine k_v (r_V C h hl (As := [.int p1]) (rest := []) (c_X7_append l D G b0 f_1079 X (0 + nzN p0) (by have := nzN_le p0; have := nzN_le p1; have := nzN_le p2; have := nzN_le p3; have := nzN_le p4; omega) w_1081 k_1082 k_1083 p1) k_1082 (Cn := RX7) (T := TX7) (N := 7) rfl rfl mk_X7_append w_417 w_418 w_419 w_420 ⟨Nat.le_of_ble_eq_true rfl, Nat.le_of_ble_eq_true rfl⟩ rfl (Nat.le_of_ble_eq_true rfl) ⟨Nat.le_of_ble_eq_true rfl, Nat.le_of_ble_eq_true rfl⟩ rfl dX10_feed_59) h (fun f_1093 H locs p_1094 h => ?_)
    obtain ⟨k_1096, ⟨w_1095, k_1097⟩, p_1094⟩ := p_1094
    have k_1098 : f_1093 (X 0) = some (.inr (11, [.ref (X 1), .ref (X 2), .ref (X 3), .ref (X 4), .ref (X 5), .ref (X 6), .ref (X 7), .ref (X 8), .ref (X 9), .ref (X 10)])) := (p_1094 _ (hne (4, 8) (4, 11) k_1082 k_1084 rfl rfl (by decide)) (hne (1, 200) (4, 11) k_1083 k_1084 rfl rfl (by decide))).trans k_1084
    have k_1099 : f_1093 (X 2) = some (.inr (1, [.int 0, .ref (X 13), .ref (X 14), .ref (X 15), .int 0, .int 0])) := (p_1094 _ (hne (4, 8) (4, 1) k_1082 k_1085 rfl rfl (by decide)) (hne (1, 200) (4, 1) k_1083 k_1085 rfl rfl (by decide))).trans k_1085
    have k_1100 : f_1093 (X 8) = some (.inl (G 1, 4, .inl (fun _ => 0))) := (p_1094 _ (hne (4, 8) (1, 4) k_1082 k_1086 rfl rfl (by decide)) (hne (1, 200) (1, 4) k_1083 k_1086 rfl rfl (by decide))).trans k_1086
    have k_1101 : f_1093 (X 12) = some (.inl (G 1, 8, .inl (fun _ => 0))) := (p_1094 _ (hne (4, 8) (1, 8) k_1082 k_1087 rfl rfl (by decide)) (hne (1, 200) (1, 8) k_1083 k_1087 rfl rfl (by decide))).trans k_1087
    have k_1102 : f_1093 (X 13) = some (.inr (6, [.ref (X 16), .int 0])) := (p_1094 _ (hne (4, 8) (4, 6) k_1082 k_1088 rfl rfl (by decide)) (hne (1, 200) (4, 6) k_1083 k_1088 rfl rfl (by decide))).trans k_1088
    have k_1103 : f_1093 (X 14) = some (.inr (6, [.ref (X 17), .int 0])) := (p_1094 _ (hne (4, 8) (4, 6) k_1082 k_1089 rfl rfl (by decide)) (hne (1, 200) (4, 6) k_1083 k_1089 rfl rfl (by decide))).trans k_1089
    have k_1104 : f_1093 (X 16) = some (.inl (G 4, 8, .inr (.inr (.inr (.inr (fun _ => none)))))) := (p_1094 _ (hne (4, 8) (3, 8) k_1082 k_1090 rfl rfl (by decide)) (hne (1, 200) (3, 8) k_1083 k_1090 rfl rfl (by decide))).trans k_1090
    have k_1105 : f_1093 (X 17) = some (.inl (G 4, 8, .inr (.inr (.inr (.inr (fun _ => none)))))) := (p_1094 _ (hne (4, 8) (3, 8) k_1082 k_1091 rfl rfl (by decide)) (hne (1, 200) (3, 8) k_1083 k_1091 rfl rfl (by decide))).trans k_1091
    refine lv_aload_n hx hb dX10_feed_62 rfl (lv_at hl 1 rfl) ?_
    refine q_get C h k_1098 fl_X10_12 (v := .ref (X 1)) rfl dX10_feed_63 ?_
    refine lv_iload_n hx hb dX10_feed_66 rfl (lv_at hl 4 rfl) ?_
    refine k_v (r_V C h hl (As := [.int p2]) (rest := []) (c_X7_append l D G b0 f_1093 X (0 + nzN p0 + nzN p1) (by have := nzN_le p0; have := nzN_le p1; have := nzN_le p2; have := nzN_le p3; have := nzN_le p4; omega) w_1095 k_1096 k_1097 p2) k_1096 (Cn := RX7) (T := TX7) (N := 7) rfl rfl mk_X7_append w_417 w_418 w_419 w_420 ⟨Nat.le_of_ble_eq_true rfl, Nat.le_of_ble_eq_true rfl⟩ rfl (Nat.le_of_ble_eq_true rfl) ⟨Nat.le_of_ble_eq_true rfl, Nat.le_of_ble_eq_true rfl⟩ rfl dX10_feed_67) h (fun f_1107 H locs p_1108 h => ?_)
    obtain ⟨k_1110, ⟨w_1109, k_1111⟩, p_1108⟩ := p_1108
    have k_1112 : f_1107 (X 0) = some (.inr (11, [.ref (X 1), .ref (X 2), .ref (X 3), .ref (X 4), .ref (X 5), .ref (X 6), .ref (X 7), .ref (X 8), .ref (X 9), .ref (X 10)])) := (p_1108 _ (hne (4, 8) (4, 11) k_1096 k_1098 rfl rfl (by decide)) (hne (1, 200) (4, 11) k_1097 k_1098 rfl rfl (by decide))).trans k_1098
    have k_1113 : f_1107 (X 2) = some (.inr (1, [.int 0, .ref (X 13), .ref (X 14), .ref (X 15), .int 0, .int 0])) := (p_1108 _ (hne (4, 8) (4, 1) k_1096 k_1099 rfl rfl (by decide)) (hne (1, 200) (4, 1) k_1097 k_1099 rfl rfl (by decide))).trans k_1099
    have k_1114 : f_1107 (X 8) = some (.inl (G 1, 4, .inl (fun _ => 0))) := (p_1108 _ (hne (4, 8) (1, 4) k_1096 k_1100 rfl rfl (by decide)) (hne (1, 200) (1, 4) k_1097 k_1100 rfl rfl (by decide))).trans k_1100
    have k_1115 : f_1107 (X 12) = some (.inl (G 1, 8, .inl (fun _ => 0))) := (p_1108 _ (hne (4, 8) (1, 8) k_1096 k_1101 rfl rfl (by decide)) (hne (1, 200) (1, 8) k_1097 k_1101 rfl rfl (by decide))).trans k_1101
    have k_1116 : f_1107 (X 13) = some (.inr (6, [.ref (X 16), .int 0])) := (p_1108 _ (hne (4, 8) (4, 6) k_1096 k_1102 rfl rfl (by decide)) (hne (1, 200) (4, 6) k_1097 k_1102 rfl rfl (by decide))).trans k_1102
    have k_1117 : f_1107 (X 14) = some (.inr (6, [.ref (X 17), .int 0])) := (p_1108 _ (hne (4, 8) (4, 6) k_1096 k_1103 rfl rfl (by decide)) (hne (1, 200) (4, 6) k_1097 k_1103 rfl rfl (by decide))).trans k_1103
    have k_1118 : f_1107 (X 16) = some (.inl (G 4, 8, .inr (.inr (.inr (.inr (fun _ => none)))))) := (p_1108 _ (hne (4, 8) (3, 8) k_1096 k_1104 rfl rfl (by decide)) (hne (1, 200) (3, 8) k_1097 k_1104 rfl rfl (by decide))).trans k_1104
    have k_1119 : f_1107 (X 17) = some (.inl (G 4, 8, .inr (.inr (.inr (.inr (fun _ => none)))))) := (p_1108 _ (hne (4, 8) (3, 8) k_1096 k_1105 rfl rfl (by decide)) (hne (1, 200) (3, 8) k_1097 k_1105 rfl rfl (by decide))).trans k_1105
    refine lv_aload_n hx hb dX10_feed_70 rfl (lv_at hl 1 rfl) ?_
    refine q_get C h k_1112 fl_X10_12 (v := .ref (X 1)) rfl dX10_feed_71 ?_
    refine lv_iload hx hb dX10_feed_74 (lv_at hl 5 rfl) ?_
    refine k_v (r_V C h hl (As := [.int p3]) (rest := []) (c_X7_append l D G b0 f_1107 X (0 + nzN p0 + nzN p1 + nzN p2) (by have := nzN_le p0; have := nzN_le p1; have := nzN_le p2; have := nzN_le p3; have := nzN_le p4; omega) w_1109 k_1110 k_1111 p3) k_1110 (Cn := RX7) (T := TX7) (N := 7) rfl rfl mk_X7_append w_417 w_418 w_419 w_420 ⟨Nat.le_of_ble_eq_true rfl, Nat.le_of_ble_eq_true rfl⟩ rfl (Nat.le_of_ble_eq_true rfl) ⟨Nat.le_of_ble_eq_true rfl, Nat.le_of_ble_eq_true rfl⟩ rfl dX10_feed_76) h (fun f_1121 H locs p_1122 h => ?_)
    obtain ⟨k_1124, ⟨w_1123, k_1125⟩, p_1122⟩ := p_1122
    have k_1126 : f_1121 (X 0) = some (.inr (11, [.ref (X 1), .ref (X 2), .ref (X 3), .ref (X 4), .ref (X 5), .ref (X 6), .ref (X 7), .ref (X 8), .ref (X 9), .ref (X 10)])) := (p_1122 _ (hne (4, 8) (4, 11) k_1110 k_1112 rfl rfl (by decide)) (hne (1, 200) (4, 11) k_1111 k_1112 rfl rfl (by decide))).trans k_1112
    have k_1127 : f_1121 (X 2) = some (.inr (1, [.int 0, .ref (X 13), .ref (X 14), .ref (X 15), .int 0, .int 0])) := (p_1122 _ (hne (4, 8) (4, 1) k_1110 k_1113 rfl rfl (by decide)) (hne (1, 200) (4, 1) k_1111 k_1113 rfl rfl (by decide))).trans k_1113
    have k_1128 : f_1121 (X 8) = some (.inl (G 1, 4, .inl (fun _ => 0))) := (p_1122 _ (hne (4, 8) (1, 4) k_1110 k_1114 rfl rfl (by decide)) (hne (1, 200) (1, 4) k_1111 k_1114 rfl rfl (by decide))).trans k_1114
    have k_1129 : f_1121 (X 12) = some (.inl (G 1, 8, .inl (fun _ => 0))) := (p_1122 _ (hne (4, 8) (1, 8) k_1110 k_1115 rfl rfl (by decide)) (hne (1, 200) (1, 8) k_1111 k_1115 rfl rfl (by decide))).trans k_1115
    have k_1130 : f_1121 (X 13) = some (.inr (6, [.ref (X 16), .int 0])) := (p_1122 _ (hne (4, 8) (4, 6) k_1110 k_1116 rfl rfl (by decide)) (hne (1, 200) (4, 6) k_1111 k_1116 rfl rfl (by decide))).trans k_1116
    have k_1131 : f_1121 (X 14) = some (.inr (6, [.ref (X 17), .int 0])) := (p_1122 _ (hne (4, 8) (4, 6) k_1110 k_1117 rfl rfl (by decide)) (hne (1, 200) (4, 6) k_1111 k_1117 rfl rfl (by decide))).trans k_1117
    have k_1132 : f_1121 (X 16) = some (.inl (G 4, 8, .inr (.inr (.inr (.inr (fun _ => none)))))) := (p_1122 _ (hne (4, 8) (3, 8) k_1110 k_1118 rfl rfl (by decide)) (hne (1, 200) (3, 8) k_1111 k_1118 rfl rfl (by decide))).trans k_1118
    have k_1133 : f_1121 (X 17) = some (.inl (G 4, 8, .inr (.inr (.inr (.inr (fun _ => none)))))) := (p_1122 _ (hne (4, 8) (3, 8) k_1110 k_1119 rfl rfl (by decide)) (hne (1, 200) (3, 8) k_1111 k_1119 rfl rfl (by decide))).trans k_1119
    refine lv_aload_n hx hb dX10_feed_79 rfl (lv_at hl 1 rfl) ?_
    refine q_get C h k_1126 fl_X10_12 (v := .ref (X 1)) rfl dX10_feed_80 ?_
    refine lv_iload hx hb dX10_feed_83 (lv_at hl 6 rfl) ?_
    refine k_v (r_V C h hl (As := [.int p4]) (rest := []) (c_X7_append l D G b0 f_1121 X (0 + nzN p0 + nzN p1 + nzN p2 + nzN p3) (by have := nzN_le p0; have := nzN_le p1; have := nzN_le p2; have := nzN_le p3; have := nzN_le p4; omega) w_1123 k_1124 k_1125 p4) k_1124 (Cn := RX7) (T := TX7) (N := 7) rfl rfl mk_X7_append w_417 w_418 w_419 w_420 ⟨Nat.le_of_ble_eq_true rfl, Nat.le_of_ble_eq_true rfl⟩ rfl (Nat.le_of_ble_eq_true rfl) ⟨Nat.le_of_ble_eq_true rfl, Nat.le_of_ble_eq_true rfl⟩ rfl dX10_feed_85) h (fun f_1135 H locs p_1136 h => ?_)
    obtain ⟨k_1138, ⟨w_1137, k_1139⟩, p_1136⟩ := p_1136
    have k_1140 : f_1135 (X 0) = some (.inr (11, [.ref (X 1), .ref (X 2), .ref (X 3), .ref (X 4), .ref (X 5), .ref (X 6), .ref (X 7), .ref (X 8), .ref (X 9), .ref (X 10)])) := (p_1136 _ (hne (4, 8) (4, 11) k_1124 k_1126 rfl rfl (by decide)) (hne (1, 200) (4, 11) k_1125 k_1126 rfl rfl (by decide))).trans k_1126
    have k_1141 : f_1135 (X 2) = some (.inr (1, [.int 0, .ref (X 13), .ref (X 14), .ref (X 15), .int 0, .int 0])) := (p_1136 _ (hne (4, 8) (4, 1) k_1124 k_1127 rfl rfl (by decide)) (hne (1, 200) (4, 1) k_1125 k_1127 rfl rfl (by decide))).trans k_1127
    have k_1142 : f_1135 (X 8) = some (.inl (G 1, 4, .inl (fun _ => 0))) := (p_1136 _ (hne (4, 8) (1, 4) k_1124 k_1128 rfl rfl (by decide)) (hne (1, 200) (1, 4) k_1125 k_1128 rfl rfl (by decide))).trans k_1128
    have k_1143 : f_1135 (X 12) = some (.inl (G 1, 8, .inl (fun _ => 0))) := (p_1136 _ (hne (4, 8) (1, 8) k_1124 k_1129 rfl rfl (by decide)) (hne (1, 200) (1, 8) k_1125 k_1129 rfl rfl (by decide))).trans k_1129
    have k_1144 : f_1135 (X 13) = some (.inr (6, [.ref (X 16), .int 0])) := (p_1136 _ (hne (4, 8) (4, 6) k_1124 k_1130 rfl rfl (by decide)) (hne (1, 200) (4, 6) k_1125 k_1130 rfl rfl (by decide))).trans k_1130
    have k_1145 : f_1135 (X 14) = some (.inr (6, [.ref (X 17), .int 0])) := (p_1136 _ (hne (4, 8) (4, 6) k_1124 k_1131 rfl rfl (by decide)) (hne (1, 200) (4, 6) k_1125 k_1131 rfl rfl (by decide))).trans k_1131
    have k_1146 : f_1135 (X 16) = some (.inl (G 4, 8, .inr (.inr (.inr (.inr (fun _ => none)))))) := (p_1136 _ (hne (4, 8) (3, 8) k_1124 k_1132 rfl rfl (by decide)) (hne (1, 200) (3, 8) k_1125 k_1132 rfl rfl (by decide))).trans k_1132
    have k_1147 : f_1135 (X 17) = some (.inl (G 4, 8, .inr (.inr (.inr (.inr (fun _ => none)))))) := (p_1136 _ (hne (4, 8) (3, 8) k_1124 k_1133 rfl rfl (by decide)) (hne (1, 200) (3, 8) k_1125 k_1133 rfl rfl (by decide))).trans k_1133
    refine lv_aload_n hx hb dX10_feed_88 rfl (lv_at hl 1 rfl) ?_
    refine q_get C h k_1140 fl_X10_12 (v := .ref (X 1)) rfl dX10_feed_89 ?_
    refine q_get C h k_1138 fl_X10_79 (v := .int (nI (0 + nzN p0 + nzN p1 + nzN p2 + nzN p3 + nzN p4))) rfl dX10_feed_92 ?_
    exact q_iret C h hr (⟨Vfeed_x _ _ _ _ _, fun q hq => (((((p_1136 q (hq 1 (by decide)) (hq 11 (by decide))).trans (p_1122 q (hq 1 (by decide)) (hq 11 (by decide)))).trans (p_1108 q (hq 1 (by decide)) (hq 11 (by decide)))).trans (p_1094 q (hq 1 (by decide)) (hq 11 (by decide)))).trans (p_1080 q (hq 1 (by decide)) (hq 11 (by decide))))⟩) (Nat.le_of_ble_eq_true rfl) (Nat.le_of_ble_eq_true rfl) dX10_feed_95
  · exact absurd (le200 (by have := nzN_le p0; have := nzN_le p1; have := nzN_le p2; have := nzN_le p3; have := nzN_le p4; omega)) c_1077
set_option maxRecDepth 100000 in
set_option maxHeartbeats 4000000 in
theorem c_X11_brings (l : Launch) (D : va_G) (G : Nat → Nat) (b0 : Nat) (f : hM) (M : Nat → Nat) (n : Nat) (hn : n + 4 ≤ 200) (w0 : Nat → Int32) (k1 : f (M 0) = some (.inr (12, [.int 0, .ref (M 1), .int (nI n), .int 0, .int 0, .ref (M 2), .ref (M 3), .ref (M 4), .ref (M 5), .ref (M 6), .int 0, .int 0, .ref (M 7), .ref (M 8), .int 0, .ref (M 9), .ref (M 10), .ref (M 11), .long 0, .ref (M 12), .ref (M 13), .ref (M 14), .ref (M 15), .ref (M 16), .ref (M 17), .ref (M 18), .ref (M 19), .int 0, .int 0, .ref (M 20), .ref (M 21), .int 0]))) (k2 : f (M 1) = some (.inl (G 0, 200, .inl w0))) (p0 : Int32) : mV l yX11_brings cX11_brings 4 { frames := 0, cells := 0, slots := 0, locals := 0 } D G b0 f [.ref (M 0), .int p0] (fun f1 => f1 (M 0) = some (.inr (12, [.int 0, .ref (M 1), .int (nI (n + nzM p0)), .int 0, .int 0, .ref (M 2), .ref (M 3), .ref (M 4), .ref (M 5), .ref (M 6), .int 0, .int 0, .ref (M 7), .ref (M 8), .int 0, .ref (M 9), .ref (M 10), .ref (M 11), .long 0, .ref (M 12), .ref (M 13), .ref (M 14), .ref (M 15), .ref (M 16), .ref (M 17), .ref (M 18), .ref (M 19), .int 0, .int 0, .ref (M 20), .ref (M 21), .int 0])) ∧ ∃ r1, f1 (M 1) = some (.inl (G 0, 200, .inl r1))) := by
  refine met_of (own := RX11) (by decide) rfl (Nat.le_of_ble_eq_true rfl) ?_
  intro p e s m below meth c ls C hr hini hl h
  have hl : lv_has ls 4 [(0, .ref (M 0)), (1, .int p0)] := hl
  obtain ⟨hx, hb, hml, hown, hts, hE0, hlk⟩ := id C
  refine lv_bipush (v := 24) hx hb dX11_brings_0 (by decide) ?_
  refine lv_istore_n (lv' := [(2, .int 24), (0, .ref (M 0)), (1, .int p0)]) hx hb dX11_brings_2 rfl hl (by decide) rfl (fun ls hl => ?_)
  refine lv_iload_n hx hb dX11_brings_3 rfl (lv_at hl 0 rfl) ?_
  refine lv_if_lt (tgt := 49) hx hb dX11_brings_4 (by decide) (fun c_1148 => ?_) (fun c_1148 => ?_)
  · exact absurd c_1148 (by decide)
  · refine lv_iload_n hx hb dX11_brings_7 rfl (lv_at hl 2 rfl) ?_
    refine lv_iload_n hx hb dX11_brings_8 rfl (lv_at hl 0 rfl) ?_
    refine lv_ishr hx hb dX11_brings_9 ?_
    refine lv_sipush (v := 255) hx hb dX11_brings_10 (by decide) ?_
    refine lv_iand hx hb dX11_brings_13 ?_
    refine lv_istore_n (lv' := [(3, .int ((p0 >>> (24 &&& 31)) &&& 255)), (2, .int 24), (0, .ref (M 0)), (1, .int p0)]) hx hb dX11_brings_14 rfl hl (by decide) rfl (fun ls hl => ?_)
    refine lv_iload_n hx hb dX11_brings_15 rfl (lv_at hl 0 rfl) ?_
    refine lv_if_ne (tgt := 22) hx hb dX11_brings_16 (by decide) (fun c_1149 => ?_) (fun c_1149 => ?_)
    · refine lv_aload_n hx hb dX11_brings_22 rfl (lv_at hl 2 rfl) ?_
      refine q_get C h k1 fl_X11_9 (v := .ref (M 1)) rfl dX11_brings_23 ?_
      refine lv_aload_n hx hb dX11_brings_26 rfl (lv_at hl 2 rfl) ?_
      refine q_get C h k1 fl_X11_79 (v := .int (nI n)) rfl dX11_brings_27 ?_
      refine lv_iload_n hx hb dX11_brings_30 rfl (lv_at hl 0 rfl) ?_
      refine lv_i2b (v := ((p0 >>> (24 &&& 31)) &&& 255).toInt8.toInt32) hx hb dX11_brings_31 rfl ?_
      refine q_bast C h k2 (vp_in_nI (by omega) (by decide)) dX11_brings_32 (fun H locs h => ?_)
      generalize ef_1151 : hu f (M 1) (.inl (G 0, 200, .inl (upd w0 (Int32.toNatClampNeg (nI n)) (vp_nar .byte (((p0 >>> (24 &&& 31)) &&& 255).toInt8.toInt32))))) = f_1151 at h
      have k_1152 : f_1151 (M 0) = some (.inr (12, [.int 0, .ref (M 1), .int (nI n), .int 0, .int 0, .ref (M 2), .ref (M 3), .ref (M 4), .ref (M 5), .ref (M 6), .int 0, .int 0, .ref (M 7), .ref (M 8), .int 0, .ref (M 9), .ref (M 10), .ref (M 11), .long 0, .ref (M 12), .ref (M 13), .ref (M 14), .ref (M 15), .ref (M 16), .ref (M 17), .ref (M 18), .ref (M 19), .int 0, .int 0, .ref (M 20), .ref (M 21), .int 0])) := by rw [← ef_1151]; exact hu_at k1 (hne (1, 200) (4, 12) k2 k1 rfl rfl (by decide))
      have k_1153 : f_1151 (M 1) = some (.inl (G 0, 200, .inl (upd w0 (Int32.toNatClampNeg (nI n)) (vp_nar .byte (((p0 >>> (24 &&& 31)) &&& 255).toInt8.toInt32))))) := by rw [← ef_1151]; exact hu_self _ _ _
      refine lv_aload_n hx hb dX11_brings_33 rfl (lv_at hl 2 rfl) ?_
      refine lv_dup hx hb dX11_brings_34 rfl ?_
      refine q_get C h k_1152 fl_X11_79 (v := .int (nI n)) rfl dX11_brings_35 ?_
      refine lv_iconst (v := 1) hx hb dX11_brings_38 (by decide) ?_
      refine lv_iadd hx hb dX11_brings_39 ?_
      refine lv_topi (fun x_ e_ => ?_)
      obtain rfl : nI (n + 1) = x_ := by rw [e_]; exact (nI_add (n) (1)).symm
      refine q_put C h k_1152 flw_X11_79 (Or.inr ⟨_, _, _, rfl, rfl⟩) (v := .int (nI (n + 1))) rfl rfl (Nat.le_of_ble_eq_true rfl) dX11_brings_40 (fun H locs h => ?_)
      have h : hw D b0 s.heap (hu f_1151 (M 0) (.inr (12, [.int 0, .ref (M 1), .int (nI (n + 1)), .int 0, .int 0, .ref (M 2), .ref (M 3), .ref (M 4), .ref (M 5), .ref (M 6), .int 0, .int 0, .ref (M 7), .ref (M 8), .int 0, .ref (M 9), .ref (M 10), .ref (M 11), .long 0, .ref (M 12), .ref (M 13), .ref (M 14), .ref (M 15), .ref (M 16), .ref (M 17), .ref (M 18), .ref (M 19), .int 0, .int 0, .ref (M 20), .ref (M 21), .int 0]))) H locs := h
      generalize ef_1154 : hu f_1151 (M 0) (.inr (12, [.int 0, .ref (M 1), .int (nI (n + 1)), .int 0, .int 0, .ref (M 2), .ref (M 3), .ref (M 4), .ref (M 5), .ref (M 6), .int 0, .int 0, .ref (M 7), .ref (M 8), .int 0, .ref (M 9), .ref (M 10), .ref (M 11), .long 0, .ref (M 12), .ref (M 13), .ref (M 14), .ref (M 15), .ref (M 16), .ref (M 17), .ref (M 18), .ref (M 19), .int 0, .int 0, .ref (M 20), .ref (M 21), .int 0])) = f_1154 at h
      have k_1155 : f_1154 (M 1) = some (.inl (G 0, 200, .inl (upd w0 (Int32.toNatClampNeg (nI n)) (vp_nar .byte (((p0 >>> (24 &&& 31)) &&& 255).toInt8.toInt32))))) := by rw [← ef_1154]; exact hu_at k_1153 (hne (4, 12) (1, 200) k_1152 k_1153 rfl rfl (by decide))
      have k_1156 : f_1154 (M 0) = some (.inr (12, [.int 0, .ref (M 1), .int (nI (n + 1)), .int 0, .int 0, .ref (M 2), .ref (M 3), .ref (M 4), .ref (M 5), .ref (M 6), .int 0, .int 0, .ref (M 7), .ref (M 8), .int 0, .ref (M 9), .ref (M 10), .ref (M 11), .long 0, .ref (M 12), .ref (M 13), .ref (M 14), .ref (M 15), .ref (M 16), .ref (M 17), .ref (M 18), .ref (M 19), .int 0, .int 0, .ref (M 20), .ref (M 21), .int 0])) := by rw [← ef_1154]; exact hu_self _ _ _
      refine lv_iinc (v := 16) (lv' := [(2, .int 16), (3, .int ((p0 >>> (24 &&& 31)) &&& 255)), (0, .ref (M 0)), (1, .int p0)]) hx hb dX11_brings_43 hl (k := 1) rfl (by decide) (by decide) rfl (fun ls hl => ?_)
      refine lv_goto (tgt := 3) hx hb dX11_brings_46 (by decide) ?_
      refine lv_iload_n hx hb dX11_brings_3 rfl (lv_at hl 0 rfl) ?_
      refine lv_if_lt (tgt := 49) hx hb dX11_brings_4 (by decide) (fun c_1157 => ?_) (fun c_1157 => ?_)
      · exact absurd c_1157 (by decide)
      · refine lv_iload_n hx hb dX11_brings_7 rfl (lv_at hl 3 rfl) ?_
        refine lv_iload_n hx hb dX11_brings_8 rfl (lv_at hl 0 rfl) ?_
        refine lv_ishr hx hb dX11_brings_9 ?_
        refine lv_sipush (v := 255) hx hb dX11_brings_10 (by decide) ?_
        refine lv_iand hx hb dX11_brings_13 ?_
        refine lv_istore_n (lv' := [(3, .int ((p0 >>> (16 &&& 31)) &&& 255)), (2, .int 16), (0, .ref (M 0)), (1, .int p0)]) hx hb dX11_brings_14 rfl hl (by decide) rfl (fun ls hl => ?_)
        refine lv_iload_n hx hb dX11_brings_15 rfl (lv_at hl 0 rfl) ?_
        refine lv_if_ne (tgt := 22) hx hb dX11_brings_16 (by decide) (fun c_1158 => ?_) (fun c_1158 => ?_)
        · refine lv_aload_n hx hb dX11_brings_22 rfl (lv_at hl 2 rfl) ?_
          refine q_get C h k_1156 fl_X11_9 (v := .ref (M 1)) rfl dX11_brings_23 ?_
          refine lv_aload_n hx hb dX11_brings_26 rfl (lv_at hl 2 rfl) ?_
          refine q_get C h k_1156 fl_X11_79 (v := .int (nI (n + 1))) rfl dX11_brings_27 ?_
          refine lv_iload_n hx hb dX11_brings_30 rfl (lv_at hl 0 rfl) ?_
          refine lv_i2b (v := ((p0 >>> (16 &&& 31)) &&& 255).toInt8.toInt32) hx hb dX11_brings_31 rfl ?_
          refine q_bast C h k_1155 (vp_in_nI (by omega) (by decide)) dX11_brings_32 (fun H locs h => ?_)
          generalize ef_1160 : hu f_1154 (M 1) (.inl (G 0, 200, .inl (upd (upd w0 (Int32.toNatClampNeg (nI n)) (vp_nar .byte (((p0 >>> (24 &&& 31)) &&& 255).toInt8.toInt32))) (Int32.toNatClampNeg (nI (n + 1))) (vp_nar .byte (((p0 >>> (16 &&& 31)) &&& 255).toInt8.toInt32))))) = f_1160 at h
          have k_1161 : f_1160 (M 0) = some (.inr (12, [.int 0, .ref (M 1), .int (nI (n + 1)), .int 0, .int 0, .ref (M 2), .ref (M 3), .ref (M 4), .ref (M 5), .ref (M 6), .int 0, .int 0, .ref (M 7), .ref (M 8), .int 0, .ref (M 9), .ref (M 10), .ref (M 11), .long 0, .ref (M 12), .ref (M 13), .ref (M 14), .ref (M 15), .ref (M 16), .ref (M 17), .ref (M 18), .ref (M 19), .int 0, .int 0, .ref (M 20), .ref (M 21), .int 0])) := by rw [← ef_1160]; exact hu_at k_1156 (hne (1, 200) (4, 12) k_1155 k_1156 rfl rfl (by decide))
          have k_1162 : f_1160 (M 1) = some (.inl (G 0, 200, .inl (upd (upd w0 (Int32.toNatClampNeg (nI n)) (vp_nar .byte (((p0 >>> (24 &&& 31)) &&& 255).toInt8.toInt32))) (Int32.toNatClampNeg (nI (n + 1))) (vp_nar .byte (((p0 >>> (16 &&& 31)) &&& 255).toInt8.toInt32))))) := by rw [← ef_1160]; exact hu_self _ _ _
          refine lv_aload_n hx hb dX11_brings_33 rfl (lv_at hl 2 rfl) ?_
          refine lv_dup hx hb dX11_brings_34 rfl ?_
          refine q_get C h k_1161 fl_X11_79 (v := .int (nI (n + 1))) rfl dX11_brings_35 ?_
          refine lv_iconst (v := 1) hx hb dX11_brings_38 (by decide) ?_
          refine lv_iadd hx hb dX11_brings_39 ?_
          refine lv_topi (fun x_ e_ => ?_)
          obtain rfl : nI (n + 1 + 1) = x_ := by rw [e_]; exact (nI_add (n + 1) (1)).symm
          refine q_put C h k_1161 flw_X11_79 (Or.inr ⟨_, _, _, rfl, rfl⟩) (v := .int (nI (n + 1 + 1))) rfl rfl (Nat.le_of_ble_eq_true rfl) dX11_brings_40 (fun H locs h => ?_)
          have h : hw D b0 s.heap (hu f_1160 (M 0) (.inr (12, [.int 0, .ref (M 1), .int (nI (n + 1 + 1)), .int 0, .int 0, .ref (M 2), .ref (M 3), .ref (M 4), .ref (M 5), .ref (M 6), .int 0, .int 0, .ref (M 7), .ref (M 8), .int 0, .ref (M 9), .ref (M 10), .ref (M 11), .long 0, .ref (M 12), .ref (M 13), .ref (M 14), .ref (M 15), .ref (M 16), .ref (M 17), .ref (M 18), .ref (M 19), .int 0, .int 0, .ref (M 20), .ref (M 21), .int 0]))) H locs := h
          generalize ef_1163 : hu f_1160 (M 0) (.inr (12, [.int 0, .ref (M 1), .int (nI (n + 1 + 1)), .int 0, .int 0, .ref (M 2), .ref (M 3), .ref (M 4), .ref (M 5), .ref (M 6), .int 0, .int 0, .ref (M 7), .ref (M 8), .int 0, .ref (M 9), .ref (M 10), .ref (M 11), .long 0, .ref (M 12), .ref (M 13), .ref (M 14), .ref (M 15), .ref (M 16), .ref (M 17), .ref (M 18), .ref (M 19), .int 0, .int 0, .ref (M 20), .ref (M 21), .int 0])) = f_1163 at h
          have k_1164 : f_1163 (M 1) = some (.inl (G 0, 200, .inl (upd (upd w0 (Int32.toNatClampNeg (nI n)) (vp_nar .byte (((p0 >>> (24 &&& 31)) &&& 255).toInt8.toInt32))) (Int32.toNatClampNeg (nI (n + 1))) (vp_nar .byte (((p0 >>> (16 &&& 31)) &&& 255).toInt8.toInt32))))) := by rw [← ef_1163]; exact hu_at k_1162 (hne (4, 12) (1, 200) k_1161 k_1162 rfl rfl (by decide))
          have k_1165 : f_1163 (M 0) = some (.inr (12, [.int 0, .ref (M 1), .int (nI (n + 1 + 1)), .int 0, .int 0, .ref (M 2), .ref (M 3), .ref (M 4), .ref (M 5), .ref (M 6), .int 0, .int 0, .ref (M 7), .ref (M 8), .int 0, .ref (M 9), .ref (M 10), .ref (M 11), .long 0, .ref (M 12), .ref (M 13), .ref (M 14), .ref (M 15), .ref (M 16), .ref (M 17), .ref (M 18), .ref (M 19), .int 0, .int 0, .ref (M 20), .ref (M 21), .int 0])) := by rw [← ef_1163]; exact hu_self _ _ _
          refine lv_iinc (v := 8) (lv' := [(2, .int 8), (3, .int ((p0 >>> (16 &&& 31)) &&& 255)), (0, .ref (M 0)), (1, .int p0)]) hx hb dX11_brings_43 hl (k := 1) rfl (by decide) (by decide) rfl (fun ls hl => ?_)
          refine lv_goto (tgt := 3) hx hb dX11_brings_46 (by decide) ?_
          refine lv_iload_n hx hb dX11_brings_3 rfl (lv_at hl 0 rfl) ?_
          refine lv_if_lt (tgt := 49) hx hb dX11_brings_4 (by decide) (fun c_1166 => ?_) (fun c_1166 => ?_)
          · exact absurd c_1166 (by decide)
          · refine lv_iload_n hx hb dX11_brings_7 rfl (lv_at hl 3 rfl) ?_
            refine lv_iload_n hx hb dX11_brings_8 rfl (lv_at hl 0 rfl) ?_
            refine lv_ishr hx hb dX11_brings_9 ?_
            refine lv_sipush (v := 255) hx hb dX11_brings_10 (by decide) ?_
            refine lv_iand hx hb dX11_brings_13 ?_
            refine lv_istore_n (lv' := [(3, .int ((p0 >>> (8 &&& 31)) &&& 255)), (2, .int 8), (0, .ref (M 0)), (1, .int p0)]) hx hb dX11_brings_14 rfl hl (by decide) rfl (fun ls hl => ?_)
            refine lv_iload_n hx hb dX11_brings_15 rfl (lv_at hl 0 rfl) ?_
            refine lv_if_ne (tgt := 22) hx hb dX11_brings_16 (by decide) (fun c_1167 => ?_) (fun c_1167 => ?_)
            · refine lv_aload_n hx hb dX11_brings_22 rfl (lv_at hl 2 rfl) ?_
              refine q_get C h k_1165 fl_X11_9 (v := .ref (M 1)) rfl dX11_brings_23 ?_
              refine lv_aload_n hx hb dX11_brings_26 rfl (lv_at hl 2 rfl) ?_
              refine q_get C h k_1165 fl_X11_79 (v := .int (nI (n + 1 + 1))) rfl dX11_brings_27 ?_
              refine lv_iload_n hx hb dX11_brings_30 rfl (lv_at hl 0 rfl) ?_
              refine lv_i2b (v := ((p0 >>> (8 &&& 31)) &&& 255).toInt8.toInt32) hx hb dX11_brings_31 rfl ?_
              refine q_bast C h k_1164 (vp_in_nI (by omega) (by decide)) dX11_brings_32 (fun H locs h => ?_)
              generalize ef_1169 : hu f_1163 (M 1) (.inl (G 0, 200, .inl (upd (upd (upd w0 (Int32.toNatClampNeg (nI n)) (vp_nar .byte (((p0 >>> (24 &&& 31)) &&& 255).toInt8.toInt32))) (Int32.toNatClampNeg (nI (n + 1))) (vp_nar .byte (((p0 >>> (16 &&& 31)) &&& 255).toInt8.toInt32))) (Int32.toNatClampNeg (nI (n + 1 + 1))) (vp_nar .byte (((p0 >>> (8 &&& 31)) &&& 255).toInt8.toInt32))))) = f_1169 at h
              have k_1170 : f_1169 (M 0) = some (.inr (12, [.int 0, .ref (M 1), .int (nI (n + 1 + 1)), .int 0, .int 0, .ref (M 2), .ref (M 3), .ref (M 4), .ref (M 5), .ref (M 6), .int 0, .int 0, .ref (M 7), .ref (M 8), .int 0, .ref (M 9), .ref (M 10), .ref (M 11), .long 0, .ref (M 12), .ref (M 13), .ref (M 14), .ref (M 15), .ref (M 16), .ref (M 17), .ref (M 18), .ref (M 19), .int 0, .int 0, .ref (M 20), .ref (M 21), .int 0])) := by rw [← ef_1169]; exact hu_at k_1165 (hne (1, 200) (4, 12) k_1164 k_1165 rfl rfl (by decide))
              have k_1171 : f_1169 (M 1) = some (.inl (G 0, 200, .inl (upd (upd (upd w0 (Int32.toNatClampNeg (nI n)) (vp_nar .byte (((p0 >>> (24 &&& 31)) &&& 255).toInt8.toInt32))) (Int32.toNatClampNeg (nI (n + 1))) (vp_nar .byte (((p0 >>> (16 &&& 31)) &&& 255).toInt8.toInt32))) (Int32.toNatClampNeg (nI (n + 1 + 1))) (vp_nar .byte (((p0 >>> (8 &&& 31)) &&& 255).toInt8.toInt32))))) := by rw [← ef_1169]; exact hu_self _ _ _
              refine lv_aload_n hx hb dX11_brings_33 rfl (lv_at hl 2 rfl) ?_
              refine lv_dup hx hb dX11_brings_34 rfl ?_
              refine q_get C h k_1170 fl_X11_79 (v := .int (nI (n + 1 + 1))) rfl dX11_brings_35 ?_
              refine lv_iconst (v := 1) hx hb dX11_brings_38 (by decide) ?_
              refine lv_iadd hx hb dX11_brings_39 ?_
              refine lv_topi (fun x_ e_ => ?_)
              obtain rfl : nI (n + 1 + 1 + 1) = x_ := by rw [e_]; exact (nI_add (n + 1 + 1) (1)).symm
              refine q_put C h k_1170 flw_X11_79 (Or.inr ⟨_, _, _, rfl, rfl⟩) (v := .int (nI (n + 1 + 1 + 1))) rfl rfl (Nat.le_of_ble_eq_true rfl) dX11_brings_40 (fun H locs h => ?_)
              have h : hw D b0 s.heap (hu f_1169 (M 0) (.inr (12, [.int 0, .ref (M 1), .int (nI (n + 1 + 1 + 1)), .int 0, .int 0, .ref (M 2), .ref (M 3), .ref (M 4), .ref (M 5), .ref (M 6), .int 0, .int 0, .ref (M 7), .ref (M 8), .int 0, .ref (M 9), .ref (M 10), .ref (M 11), .long 0, .ref (M 12), .ref (M 13), .ref (M 14), .ref (M 15), .ref (M 16), .ref (M 17), .ref (M 18), .ref (M 19), .int 0, .int 0, .ref (M 20), .ref (M 21), .int 0]))) H locs := h
              generalize ef_1172 : hu f_1169 (M 0) (.inr (12, [.int 0, .ref (M 1), .int (nI (n + 1 + 1 + 1)), .int 0, .int 0, .ref (M 2), .ref (M 3), .ref (M 4), .ref (M 5), .ref (M 6), .int 0, .int 0, .ref (M 7), .ref (M 8), .int 0, .ref (M 9), .ref (M 10), .ref (M 11), .long 0, .ref (M 12), .ref (M 13), .ref (M 14), .ref (M 15), .ref (M 16), .ref (M 17), .ref (M 18), .ref (M 19), .int 0, .int 0, .ref (M 20), .ref (M 21), .int 0])) = f_1172 at h
              have k_1173 : f_1172 (M 1) = some (.inl (G 0, 200, .inl (upd (upd (upd w0 (Int32.toNatClampNeg (nI n)) (vp_nar .byte (((p0 >>> (24 &&& 31)) &&& 255).toInt8.toInt32))) (Int32.toNatClampNeg (nI (n + 1))) (vp_nar .byte (((p0 >>> (16 &&& 31)) &&& 255).toInt8.toInt32))) (Int32.toNatClampNeg (nI (n + 1 + 1))) (vp_nar .byte (((p0 >>> (8 &&& 31)) &&& 255).toInt8.toInt32))))) := by rw [← ef_1172]; exact hu_at k_1171 (hne (4, 12) (1, 200) k_1170 k_1171 rfl rfl (by decide))
              have k_1174 : f_1172 (M 0) = some (.inr (12, [.int 0, .ref (M 1), .int (nI (n + 1 + 1 + 1)), .int 0, .int 0, .ref (M 2), .ref (M 3), .ref (M 4), .ref (M 5), .ref (M 6), .int 0, .int 0, .ref (M 7), .ref (M 8), .int 0, .ref (M 9), .ref (M 10), .ref (M 11), .long 0, .ref (M 12), .ref (M 13), .ref (M 14), .ref (M 15), .ref (M 16), .ref (M 17), .ref (M 18), .ref (M 19), .int 0, .int 0, .ref (M 20), .ref (M 21), .int 0])) := by rw [← ef_1172]; exact hu_self _ _ _
              refine lv_iinc (v := 0) (lv' := [(2, .int 0), (3, .int ((p0 >>> (8 &&& 31)) &&& 255)), (0, .ref (M 0)), (1, .int p0)]) hx hb dX11_brings_43 hl (k := 1) rfl (by decide) (by decide) rfl (fun ls hl => ?_)
              refine lv_goto (tgt := 3) hx hb dX11_brings_46 (by decide) ?_
              refine lv_iload_n hx hb dX11_brings_3 rfl (lv_at hl 0 rfl) ?_
              refine lv_if_lt (tgt := 49) hx hb dX11_brings_4 (by decide) (fun c_1175 => ?_) (fun c_1175 => ?_)
              · exact absurd c_1175 (by decide)
              · refine lv_iload_n hx hb dX11_brings_7 rfl (lv_at hl 3 rfl) ?_
                refine lv_iload_n hx hb dX11_brings_8 rfl (lv_at hl 0 rfl) ?_
                refine lv_ishr hx hb dX11_brings_9 ?_
                refine lv_sipush (v := 255) hx hb dX11_brings_10 (by decide) ?_
                refine lv_iand hx hb dX11_brings_13 ?_
                refine lv_istore_n (lv' := [(3, .int ((p0 >>> (0 &&& 31)) &&& 255)), (2, .int 0), (0, .ref (M 0)), (1, .int p0)]) hx hb dX11_brings_14 rfl hl (by decide) rfl (fun ls hl => ?_)
                refine lv_iload_n hx hb dX11_brings_15 rfl (lv_at hl 0 rfl) ?_
                refine lv_if_ne (tgt := 22) hx hb dX11_brings_16 (by decide) (fun c_1176 => ?_) (fun c_1176 => ?_)
                · refine lv_aload_n hx hb dX11_brings_22 rfl (lv_at hl 2 rfl) ?_
                  refine q_get C h k_1174 fl_X11_9 (v := .ref (M 1)) rfl dX11_brings_23 ?_
                  refine lv_aload_n hx hb dX11_brings_26 rfl (lv_at hl 2 rfl) ?_
                  refine q_get C h k_1174 fl_X11_79 (v := .int (nI (n + 1 + 1 + 1))) rfl dX11_brings_27 ?_
                  refine lv_iload_n hx hb dX11_brings_30 rfl (lv_at hl 0 rfl) ?_
                  refine lv_i2b (v := ((p0 >>> (0 &&& 31)) &&& 255).toInt8.toInt32) hx hb dX11_brings_31 rfl ?_
                  refine q_bast C h k_1173 (vp_in_nI (by omega) (by decide)) dX11_brings_32 (fun H locs h => ?_)
                  generalize ef_1178 : hu f_1172 (M 1) (.inl (G 0, 200, .inl (upd (upd (upd (upd w0 (Int32.toNatClampNeg (nI n)) (vp_nar .byte (((p0 >>> (24 &&& 31)) &&& 255).toInt8.toInt32))) (Int32.toNatClampNeg (nI (n + 1))) (vp_nar .byte (((p0 >>> (16 &&& 31)) &&& 255).toInt8.toInt32))) (Int32.toNatClampNeg (nI (n + 1 + 1))) (vp_nar .byte (((p0 >>> (8 &&& 31)) &&& 255).toInt8.toInt32))) (Int32.toNatClampNeg (nI (n + 1 + 1 + 1))) (vp_nar .byte (((p0 >>> (0 &&& 31)) &&& 255).toInt8.toInt32))))) = f_1178 at h
                  have k_1179 : f_1178 (M 0) = some (.inr (12, [.int 0, .ref (M 1), .int (nI (n + 1 + 1 + 1)), .int 0, .int 0, .ref (M 2), .ref (M 3), .ref (M 4), .ref (M 5), .ref (M 6), .int 0, .int 0, .ref (M 7), .ref (M 8), .int 0, .ref (M 9), .ref (M 10), .ref (M 11), .long 0, .ref (M 12), .ref (M 13), .ref (M 14), .ref (M 15), .ref (M 16), .ref (M 17), .ref (M 18), .ref (M 19), .int 0, .int 0, .ref (M 20), .ref (M 21), .int 0])) := by rw [← ef_1178]; exact hu_at k_1174 (hne (1, 200) (4, 12) k_1173 k_1174 rfl rfl (by decide))
                  have k_1180 : f_1178 (M 1) = some (.inl (G 0, 200, .inl (upd (upd (upd (upd w0 (Int32.toNatClampNeg (nI n)) (vp_nar .byte (((p0 >>> (24 &&& 31)) &&& 255).toInt8.toInt32))) (Int32.toNatClampNeg (nI (n + 1))) (vp_nar .byte (((p0 >>> (16 &&& 31)) &&& 255).toInt8.toInt32))) (Int32.toNatClampNeg (nI (n + 1 + 1))) (vp_nar .byte (((p0 >>> (8 &&& 31)) &&& 255).toInt8.toInt32))) (Int32.toNatClampNeg (nI (n + 1 + 1 + 1))) (vp_nar .byte (((p0 >>> (0 &&& 31)) &&& 255).toInt8.toInt32))))) := by rw [← ef_1178]; exact hu_self _ _ _
                  refine lv_aload_n hx hb dX11_brings_33 rfl (lv_at hl 2 rfl) ?_
                  refine lv_dup hx hb dX11_brings_34 rfl ?_
                  refine q_get C h k_1179 fl_X11_79 (v := .int (nI (n + 1 + 1 + 1))) rfl dX11_brings_35 ?_
                  refine lv_iconst (v := 1) hx hb dX11_brings_38 (by decide) ?_
                  refine lv_iadd hx hb dX11_brings_39 ?_
                  refine lv_topi (fun x_ e_ => ?_)
                  obtain rfl : nI (n + 1 + 1 + 1 + 1) = x_ := by rw [e_]; exact (nI_add (n + 1 + 1 + 1) (1)).symm
                  refine q_put C h k_1179 flw_X11_79 (Or.inr ⟨_, _, _, rfl, rfl⟩) (v := .int (nI (n + 1 + 1 + 1 + 1))) rfl rfl (Nat.le_of_ble_eq_true rfl) dX11_brings_40 (fun H locs h => ?_)
                  have h : hw D b0 s.heap (hu f_1178 (M 0) (.inr (12, [.int 0, .ref (M 1), .int (nI (n + 1 + 1 + 1 + 1)), .int 0, .int 0, .ref (M 2), .ref (M 3), .ref (M 4), .ref (M 5), .ref (M 6), .int 0, .int 0, .ref (M 7), .ref (M 8), .int 0, .ref (M 9), .ref (M 10), .ref (M 11), .long 0, .ref (M 12), .ref (M 13), .ref (M 14), .ref (M 15), .ref (M 16), .ref (M 17), .ref (M 18), .ref (M 19), .int 0, .int 0, .ref (M 20), .ref (M 21), .int 0]))) H locs := h
                  generalize ef_1181 : hu f_1178 (M 0) (.inr (12, [.int 0, .ref (M 1), .int (nI (n + 1 + 1 + 1 + 1)), .int 0, .int 0, .ref (M 2), .ref (M 3), .ref (M 4), .ref (M 5), .ref (M 6), .int 0, .int 0, .ref (M 7), .ref (M 8), .int 0, .ref (M 9), .ref (M 10), .ref (M 11), .long 0, .ref (M 12), .ref (M 13), .ref (M 14), .ref (M 15), .ref (M 16), .ref (M 17), .ref (M 18), .ref (M 19), .int 0, .int 0, .ref (M 20), .ref (M 21), .int 0])) = f_1181 at h
                  have k_1182 : f_1181 (M 1) = some (.inl (G 0, 200, .inl (upd (upd (upd (upd w0 (Int32.toNatClampNeg (nI n)) (vp_nar .byte (((p0 >>> (24 &&& 31)) &&& 255).toInt8.toInt32))) (Int32.toNatClampNeg (nI (n + 1))) (vp_nar .byte (((p0 >>> (16 &&& 31)) &&& 255).toInt8.toInt32))) (Int32.toNatClampNeg (nI (n + 1 + 1))) (vp_nar .byte (((p0 >>> (8 &&& 31)) &&& 255).toInt8.toInt32))) (Int32.toNatClampNeg (nI (n + 1 + 1 + 1))) (vp_nar .byte (((p0 >>> (0 &&& 31)) &&& 255).toInt8.toInt32))))) := by rw [← ef_1181]; exact hu_at k_1180 (hne (4, 12) (1, 200) k_1179 k_1180 rfl rfl (by decide))
                  have k_1183 : f_1181 (M 0) = some (.inr (12, [.int 0, .ref (M 1), .int (nI (n + 1 + 1 + 1 + 1)), .int 0, .int 0, .ref (M 2), .ref (M 3), .ref (M 4), .ref (M 5), .ref (M 6), .int 0, .int 0, .ref (M 7), .ref (M 8), .int 0, .ref (M 9), .ref (M 10), .ref (M 11), .long 0, .ref (M 12), .ref (M 13), .ref (M 14), .ref (M 15), .ref (M 16), .ref (M 17), .ref (M 18), .ref (M 19), .int 0, .int 0, .ref (M 20), .ref (M 21), .int 0])) := by rw [← ef_1181]; exact hu_self _ _ _
                  refine lv_iinc (v := -8) (lv' := [(2, .int (-8)), (3, .int ((p0 >>> (0 &&& 31)) &&& 255)), (0, .ref (M 0)), (1, .int p0)]) hx hb dX11_brings_43 hl (k := 1) rfl (by decide) (by decide) rfl (fun ls hl => ?_)
                  refine lv_goto (tgt := 3) hx hb dX11_brings_46 (by decide) ?_
                  refine lv_iload_n hx hb dX11_brings_3 rfl (lv_at hl 0 rfl) ?_
                  refine lv_if_lt (tgt := 49) hx hb dX11_brings_4 (by decide) (fun c_1184 => ?_) (fun c_1184 => ?_)
                  · exact q_vret C h hr (⟨by rw [show n + nzM p0 = n + 1 + 1 + 1 + 1 from (by unfold nzM nz1 sbt; rw [if_neg c_1149, if_neg c_1158, if_neg c_1167, if_neg c_1176]; try omega)]; exact k_1183, ⟨_, k_1182⟩⟩) (Nat.le_of_ble_eq_true rfl) (Nat.le_of_ble_eq_true rfl) dX11_brings_49
                  · exact absurd c_1184 (by decide)
                · refine lv_goto (tgt := 43) hx hb dX11_brings_19 (by decide) ?_
                  refine lv_iinc (v := -8) (lv' := [(2, .int (-8)), (3, .int ((p0 >>> (0 &&& 31)) &&& 255)), (0, .ref (M 0)), (1, .int p0)]) hx hb dX11_brings_43 hl (k := 1) rfl (by decide) (by decide) rfl (fun ls hl => ?_)
                  refine lv_goto (tgt := 3) hx hb dX11_brings_46 (by decide) ?_
                  refine lv_iload_n hx hb dX11_brings_3 rfl (lv_at hl 0 rfl) ?_
                  refine lv_if_lt (tgt := 49) hx hb dX11_brings_4 (by decide) (fun c_1185 => ?_) (fun c_1185 => ?_)
                  · exact q_vret C h hr (⟨by rw [show n + nzM p0 = n + 1 + 1 + 1 from (by unfold nzM nz1 sbt; rw [if_neg c_1149, if_neg c_1158, if_neg c_1167, if_pos c_1176]; try omega)]; exact k_1174, ⟨_, k_1173⟩⟩) (Nat.le_of_ble_eq_true rfl) (Nat.le_of_ble_eq_true rfl) dX11_brings_49
                  · exact absurd c_1185 (by decide)
            · refine lv_goto (tgt := 43) hx hb dX11_brings_19 (by decide) ?_
              refine lv_iinc (v := 0) (lv' := [(2, .int 0), (3, .int ((p0 >>> (8 &&& 31)) &&& 255)), (0, .ref (M 0)), (1, .int p0)]) hx hb dX11_brings_43 hl (k := 1) rfl (by decide) (by decide) rfl (fun ls hl => ?_)
              refine lv_goto (tgt := 3) hx hb dX11_brings_46 (by decide) ?_
              refine lv_iload_n hx hb dX11_brings_3 rfl (lv_at hl 0 rfl) ?_
              refine lv_if_lt (tgt := 49) hx hb dX11_brings_4 (by decide) (fun c_1186 => ?_) (fun c_1186 => ?_)
              · exact absurd c_1186 (by decide)
              · refine lv_iload_n hx hb dX11_brings_7 rfl (lv_at hl 3 rfl) ?_
                refine lv_iload_n hx hb dX11_brings_8 rfl (lv_at hl 0 rfl) ?_
                refine lv_ishr hx hb dX11_brings_9 ?_
                refine lv_sipush (v := 255) hx hb dX11_brings_10 (by decide) ?_
                refine lv_iand hx hb dX11_brings_13 ?_
                refine lv_istore_n (lv' := [(3, .int ((p0 >>> (0 &&& 31)) &&& 255)), (2, .int 0), (0, .ref (M 0)), (1, .int p0)]) hx hb dX11_brings_14 rfl hl (by decide) rfl (fun ls hl => ?_)
                refine lv_iload_n hx hb dX11_brings_15 rfl (lv_at hl 0 rfl) ?_
                refine lv_if_ne (tgt := 22) hx hb dX11_brings_16 (by decide) (fun c_1187 => ?_) (fun c_1187 => ?_)
                · refine lv_aload_n hx hb dX11_brings_22 rfl (lv_at hl 2 rfl) ?_
                  refine q_get C h k_1165 fl_X11_9 (v := .ref (M 1)) rfl dX11_brings_23 ?_
                  refine lv_aload_n hx hb dX11_brings_26 rfl (lv_at hl 2 rfl) ?_
                  refine q_get C h k_1165 fl_X11_79 (v := .int (nI (n + 1 + 1))) rfl dX11_brings_27 ?_
                  refine lv_iload_n hx hb dX11_brings_30 rfl (lv_at hl 0 rfl) ?_
                  refine lv_i2b (v := ((p0 >>> (0 &&& 31)) &&& 255).toInt8.toInt32) hx hb dX11_brings_31 rfl ?_
                  refine q_bast C h k_1164 (vp_in_nI (by omega) (by decide)) dX11_brings_32 (fun H locs h => ?_)
                  generalize ef_1189 : hu f_1163 (M 1) (.inl (G 0, 200, .inl (upd (upd (upd w0 (Int32.toNatClampNeg (nI n)) (vp_nar .byte (((p0 >>> (24 &&& 31)) &&& 255).toInt8.toInt32))) (Int32.toNatClampNeg (nI (n + 1))) (vp_nar .byte (((p0 >>> (16 &&& 31)) &&& 255).toInt8.toInt32))) (Int32.toNatClampNeg (nI (n + 1 + 1))) (vp_nar .byte (((p0 >>> (0 &&& 31)) &&& 255).toInt8.toInt32))))) = f_1189 at h
                  have k_1190 : f_1189 (M 0) = some (.inr (12, [.int 0, .ref (M 1), .int (nI (n + 1 + 1)), .int 0, .int 0, .ref (M 2), .ref (M 3), .ref (M 4), .ref (M 5), .ref (M 6), .int 0, .int 0, .ref (M 7), .ref (M 8), .int 0, .ref (M 9), .ref (M 10), .ref (M 11), .long 0, .ref (M 12), .ref (M 13), .ref (M 14), .ref (M 15), .ref (M 16), .ref (M 17), .ref (M 18), .ref (M 19), .int 0, .int 0, .ref (M 20), .ref (M 21), .int 0])) := by rw [← ef_1189]; exact hu_at k_1165 (hne (1, 200) (4, 12) k_1164 k_1165 rfl rfl (by decide))
                  have k_1191 : f_1189 (M 1) = some (.inl (G 0, 200, .inl (upd (upd (upd w0 (Int32.toNatClampNeg (nI n)) (vp_nar .byte (((p0 >>> (24 &&& 31)) &&& 255).toInt8.toInt32))) (Int32.toNatClampNeg (nI (n + 1))) (vp_nar .byte (((p0 >>> (16 &&& 31)) &&& 255).toInt8.toInt32))) (Int32.toNatClampNeg (nI (n + 1 + 1))) (vp_nar .byte (((p0 >>> (0 &&& 31)) &&& 255).toInt8.toInt32))))) := by rw [← ef_1189]; exact hu_self _ _ _
                  refine lv_aload_n hx hb dX11_brings_33 rfl (lv_at hl 2 rfl) ?_
                  refine lv_dup hx hb dX11_brings_34 rfl ?_
                  refine q_get C h k_1190 fl_X11_79 (v := .int (nI (n + 1 + 1))) rfl dX11_brings_35 ?_
                  refine lv_iconst (v := 1) hx hb dX11_brings_38 (by decide) ?_
                  refine lv_iadd hx hb dX11_brings_39 ?_
                  refine lv_topi (fun x_ e_ => ?_)
                  obtain rfl : nI (n + 1 + 1 + 1) = x_ := by rw [e_]; exact (nI_add (n + 1 + 1) (1)).symm
                  refine q_put C h k_1190 flw_X11_79 (Or.inr ⟨_, _, _, rfl, rfl⟩) (v := .int (nI (n + 1 + 1 + 1))) rfl rfl (Nat.le_of_ble_eq_true rfl) dX11_brings_40 (fun H locs h => ?_)
                  have h : hw D b0 s.heap (hu f_1189 (M 0) (.inr (12, [.int 0, .ref (M 1), .int (nI (n + 1 + 1 + 1)), .int 0, .int 0, .ref (M 2), .ref (M 3), .ref (M 4), .ref (M 5), .ref (M 6), .int 0, .int 0, .ref (M 7), .ref (M 8), .int 0, .ref (M 9), .ref (M 10), .ref (M 11), .long 0, .ref (M 12), .ref (M 13), .ref (M 14), .ref (M 15), .ref (M 16), .ref (M 17), .ref (M 18), .ref (M 19), .int 0, .int 0, .ref (M 20), .ref (M 21), .int 0]))) H locs := h
                  generalize ef_1192 : hu f_1189 (M 0) (.inr (12, [.int 0, .ref (M 1), .int (nI (n + 1 + 1 + 1)), .int 0, .int 0, .ref (M 2), .ref (M 3), .ref (M 4), .ref (M 5), .ref (M 6), .int 0, .int 0, .ref (M 7), .ref (M 8), .int 0, .ref (M 9), .ref (M 10), .ref (M 11), .long 0, .ref (M 12), .ref (M 13), .ref (M 14), .ref (M 15), .ref (M 16), .ref (M 17), .ref (M 18), .ref (M 19), .int 0, .int 0, .ref (M 20), .ref (M 21), .int 0])) = f_1192 at h
                  have k_1193 : f_1192 (M 1) = some (.inl (G 0, 200, .inl (upd (upd (upd w0 (Int32.toNatClampNeg (nI n)) (vp_nar .byte (((p0 >>> (24 &&& 31)) &&& 255).toInt8.toInt32))) (Int32.toNatClampNeg (nI (n + 1))) (vp_nar .byte (((p0 >>> (16 &&& 31)) &&& 255).toInt8.toInt32))) (Int32.toNatClampNeg (nI (n + 1 + 1))) (vp_nar .byte (((p0 >>> (0 &&& 31)) &&& 255).toInt8.toInt32))))) := by rw [← ef_1192]; exact hu_at k_1191 (hne (4, 12) (1, 200) k_1190 k_1191 rfl rfl (by decide))
                  have k_1194 : f_1192 (M 0) = some (.inr (12, [.int 0, .ref (M 1), .int (nI (n + 1 + 1 + 1)), .int 0, .int 0, .ref (M 2), .ref (M 3), .ref (M 4), .ref (M 5), .ref (M 6), .int 0, .int 0, .ref (M 7), .ref (M 8), .int 0, .ref (M 9), .ref (M 10), .ref (M 11), .long 0, .ref (M 12), .ref (M 13), .ref (M 14), .ref (M 15), .ref (M 16), .ref (M 17), .ref (M 18), .ref (M 19), .int 0, .int 0, .ref (M 20), .ref (M 21), .int 0])) := by rw [← ef_1192]; exact hu_self _ _ _
                  refine lv_iinc (v := -8) (lv' := [(2, .int (-8)), (3, .int ((p0 >>> (0 &&& 31)) &&& 255)), (0, .ref (M 0)), (1, .int p0)]) hx hb dX11_brings_43 hl (k := 1) rfl (by decide) (by decide) rfl (fun ls hl => ?_)
                  refine lv_goto (tgt := 3) hx hb dX11_brings_46 (by decide) ?_
                  refine lv_iload_n hx hb dX11_brings_3 rfl (lv_at hl 0 rfl) ?_
                  refine lv_if_lt (tgt := 49) hx hb dX11_brings_4 (by decide) (fun c_1195 => ?_) (fun c_1195 => ?_)
                  · exact q_vret C h hr (⟨by rw [show n + nzM p0 = n + 1 + 1 + 1 from (by unfold nzM nz1 sbt; rw [if_neg c_1149, if_neg c_1158, if_pos c_1167, if_neg c_1187]; try omega)]; exact k_1194, ⟨_, k_1193⟩⟩) (Nat.le_of_ble_eq_true rfl) (Nat.le_of_ble_eq_true rfl) dX11_brings_49
                  · exact absurd c_1195 (by decide)
                · refine lv_goto (tgt := 43) hx hb dX11_brings_19 (by decide) ?_
                  refine lv_iinc (v := -8) (lv' := [(2, .int (-8)), (3, .int ((p0 >>> (0 &&& 31)) &&& 255)), (0, .ref (M 0)), (1, .int p0)]) hx hb dX11_brings_43 hl (k := 1) rfl (by decide) (by decide) rfl (fun ls hl => ?_)
                  refine lv_goto (tgt := 3) hx hb dX11_brings_46 (by decide) ?_
                  refine lv_iload_n hx hb dX11_brings_3 rfl (lv_at hl 0 rfl) ?_
                  refine lv_if_lt (tgt := 49) hx hb dX11_brings_4 (by decide) (fun c_1196 => ?_) (fun c_1196 => ?_)
                  · exact q_vret C h hr (⟨by rw [show n + nzM p0 = n + 1 + 1 from (by unfold nzM nz1 sbt; rw [if_neg c_1149, if_neg c_1158, if_pos c_1167, if_pos c_1187]; try omega)]; exact k_1165, ⟨_, k_1164⟩⟩) (Nat.le_of_ble_eq_true rfl) (Nat.le_of_ble_eq_true rfl) dX11_brings_49
                  · exact absurd c_1196 (by decide)
        · refine lv_goto (tgt := 43) hx hb dX11_brings_19 (by decide) ?_
          refine lv_iinc (v := 8) (lv' := [(2, .int 8), (3, .int ((p0 >>> (16 &&& 31)) &&& 255)), (0, .ref (M 0)), (1, .int p0)]) hx hb dX11_brings_43 hl (k := 1) rfl (by decide) (by decide) rfl (fun ls hl => ?_)
          refine lv_goto (tgt := 3) hx hb dX11_brings_46 (by decide) ?_
          refine lv_iload_n hx hb dX11_brings_3 rfl (lv_at hl 0 rfl) ?_
          refine lv_if_lt (tgt := 49) hx hb dX11_brings_4 (by decide) (fun c_1197 => ?_) (fun c_1197 => ?_)
          · exact absurd c_1197 (by decide)
          · refine lv_iload_n hx hb dX11_brings_7 rfl (lv_at hl 3 rfl) ?_
            refine lv_iload_n hx hb dX11_brings_8 rfl (lv_at hl 0 rfl) ?_
            refine lv_ishr hx hb dX11_brings_9 ?_
            refine lv_sipush (v := 255) hx hb dX11_brings_10 (by decide) ?_
            refine lv_iand hx hb dX11_brings_13 ?_
            refine lv_istore_n (lv' := [(3, .int ((p0 >>> (8 &&& 31)) &&& 255)), (2, .int 8), (0, .ref (M 0)), (1, .int p0)]) hx hb dX11_brings_14 rfl hl (by decide) rfl (fun ls hl => ?_)
            refine lv_iload_n hx hb dX11_brings_15 rfl (lv_at hl 0 rfl) ?_
            refine lv_if_ne (tgt := 22) hx hb dX11_brings_16 (by decide) (fun c_1198 => ?_) (fun c_1198 => ?_)
            · refine lv_aload_n hx hb dX11_brings_22 rfl (lv_at hl 2 rfl) ?_
              refine q_get C h k_1156 fl_X11_9 (v := .ref (M 1)) rfl dX11_brings_23 ?_
              refine lv_aload_n hx hb dX11_brings_26 rfl (lv_at hl 2 rfl) ?_
              refine q_get C h k_1156 fl_X11_79 (v := .int (nI (n + 1))) rfl dX11_brings_27 ?_
              refine lv_iload_n hx hb dX11_brings_30 rfl (lv_at hl 0 rfl) ?_
              refine lv_i2b (v := ((p0 >>> (8 &&& 31)) &&& 255).toInt8.toInt32) hx hb dX11_brings_31 rfl ?_
              refine q_bast C h k_1155 (vp_in_nI (by omega) (by decide)) dX11_brings_32 (fun H locs h => ?_)
              generalize ef_1200 : hu f_1154 (M 1) (.inl (G 0, 200, .inl (upd (upd w0 (Int32.toNatClampNeg (nI n)) (vp_nar .byte (((p0 >>> (24 &&& 31)) &&& 255).toInt8.toInt32))) (Int32.toNatClampNeg (nI (n + 1))) (vp_nar .byte (((p0 >>> (8 &&& 31)) &&& 255).toInt8.toInt32))))) = f_1200 at h
              have k_1201 : f_1200 (M 0) = some (.inr (12, [.int 0, .ref (M 1), .int (nI (n + 1)), .int 0, .int 0, .ref (M 2), .ref (M 3), .ref (M 4), .ref (M 5), .ref (M 6), .int 0, .int 0, .ref (M 7), .ref (M 8), .int 0, .ref (M 9), .ref (M 10), .ref (M 11), .long 0, .ref (M 12), .ref (M 13), .ref (M 14), .ref (M 15), .ref (M 16), .ref (M 17), .ref (M 18), .ref (M 19), .int 0, .int 0, .ref (M 20), .ref (M 21), .int 0])) := by rw [← ef_1200]; exact hu_at k_1156 (hne (1, 200) (4, 12) k_1155 k_1156 rfl rfl (by decide))
              have k_1202 : f_1200 (M 1) = some (.inl (G 0, 200, .inl (upd (upd w0 (Int32.toNatClampNeg (nI n)) (vp_nar .byte (((p0 >>> (24 &&& 31)) &&& 255).toInt8.toInt32))) (Int32.toNatClampNeg (nI (n + 1))) (vp_nar .byte (((p0 >>> (8 &&& 31)) &&& 255).toInt8.toInt32))))) := by rw [← ef_1200]; exact hu_self _ _ _
              refine lv_aload_n hx hb dX11_brings_33 rfl (lv_at hl 2 rfl) ?_
              refine lv_dup hx hb dX11_brings_34 rfl ?_
              refine q_get C h k_1201 fl_X11_79 (v := .int (nI (n + 1))) rfl dX11_brings_35 ?_
              refine lv_iconst (v := 1) hx hb dX11_brings_38 (by decide) ?_
              refine lv_iadd hx hb dX11_brings_39 ?_
              refine lv_topi (fun x_ e_ => ?_)
              obtain rfl : nI (n + 1 + 1) = x_ := by rw [e_]; exact (nI_add (n + 1) (1)).symm
              refine q_put C h k_1201 flw_X11_79 (Or.inr ⟨_, _, _, rfl, rfl⟩) (v := .int (nI (n + 1 + 1))) rfl rfl (Nat.le_of_ble_eq_true rfl) dX11_brings_40 (fun H locs h => ?_)
              have h : hw D b0 s.heap (hu f_1200 (M 0) (.inr (12, [.int 0, .ref (M 1), .int (nI (n + 1 + 1)), .int 0, .int 0, .ref (M 2), .ref (M 3), .ref (M 4), .ref (M 5), .ref (M 6), .int 0, .int 0, .ref (M 7), .ref (M 8), .int 0, .ref (M 9), .ref (M 10), .ref (M 11), .long 0, .ref (M 12), .ref (M 13), .ref (M 14), .ref (M 15), .ref (M 16), .ref (M 17), .ref (M 18), .ref (M 19), .int 0, .int 0, .ref (M 20), .ref (M 21), .int 0]))) H locs := h
              generalize ef_1203 : hu f_1200 (M 0) (.inr (12, [.int 0, .ref (M 1), .int (nI (n + 1 + 1)), .int 0, .int 0, .ref (M 2), .ref (M 3), .ref (M 4), .ref (M 5), .ref (M 6), .int 0, .int 0, .ref (M 7), .ref (M 8), .int 0, .ref (M 9), .ref (M 10), .ref (M 11), .long 0, .ref (M 12), .ref (M 13), .ref (M 14), .ref (M 15), .ref (M 16), .ref (M 17), .ref (M 18), .ref (M 19), .int 0, .int 0, .ref (M 20), .ref (M 21), .int 0])) = f_1203 at h
              have k_1204 : f_1203 (M 1) = some (.inl (G 0, 200, .inl (upd (upd w0 (Int32.toNatClampNeg (nI n)) (vp_nar .byte (((p0 >>> (24 &&& 31)) &&& 255).toInt8.toInt32))) (Int32.toNatClampNeg (nI (n + 1))) (vp_nar .byte (((p0 >>> (8 &&& 31)) &&& 255).toInt8.toInt32))))) := by rw [← ef_1203]; exact hu_at k_1202 (hne (4, 12) (1, 200) k_1201 k_1202 rfl rfl (by decide))
              have k_1205 : f_1203 (M 0) = some (.inr (12, [.int 0, .ref (M 1), .int (nI (n + 1 + 1)), .int 0, .int 0, .ref (M 2), .ref (M 3), .ref (M 4), .ref (M 5), .ref (M 6), .int 0, .int 0, .ref (M 7), .ref (M 8), .int 0, .ref (M 9), .ref (M 10), .ref (M 11), .long 0, .ref (M 12), .ref (M 13), .ref (M 14), .ref (M 15), .ref (M 16), .ref (M 17), .ref (M 18), .ref (M 19), .int 0, .int 0, .ref (M 20), .ref (M 21), .int 0])) := by rw [← ef_1203]; exact hu_self _ _ _
              refine lv_iinc (v := 0) (lv' := [(2, .int 0), (3, .int ((p0 >>> (8 &&& 31)) &&& 255)), (0, .ref (M 0)), (1, .int p0)]) hx hb dX11_brings_43 hl (k := 1) rfl (by decide) (by decide) rfl (fun ls hl => ?_)
              refine lv_goto (tgt := 3) hx hb dX11_brings_46 (by decide) ?_
              refine lv_iload_n hx hb dX11_brings_3 rfl (lv_at hl 0 rfl) ?_
              refine lv_if_lt (tgt := 49) hx hb dX11_brings_4 (by decide) (fun c_1206 => ?_) (fun c_1206 => ?_)
              · exact absurd c_1206 (by decide)
              · refine lv_iload_n hx hb dX11_brings_7 rfl (lv_at hl 3 rfl) ?_
                refine lv_iload_n hx hb dX11_brings_8 rfl (lv_at hl 0 rfl) ?_
                refine lv_ishr hx hb dX11_brings_9 ?_
                refine lv_sipush (v := 255) hx hb dX11_brings_10 (by decide) ?_
                refine lv_iand hx hb dX11_brings_13 ?_
                refine lv_istore_n (lv' := [(3, .int ((p0 >>> (0 &&& 31)) &&& 255)), (2, .int 0), (0, .ref (M 0)), (1, .int p0)]) hx hb dX11_brings_14 rfl hl (by decide) rfl (fun ls hl => ?_)
                refine lv_iload_n hx hb dX11_brings_15 rfl (lv_at hl 0 rfl) ?_
                refine lv_if_ne (tgt := 22) hx hb dX11_brings_16 (by decide) (fun c_1207 => ?_) (fun c_1207 => ?_)
                · refine lv_aload_n hx hb dX11_brings_22 rfl (lv_at hl 2 rfl) ?_
                  refine q_get C h k_1205 fl_X11_9 (v := .ref (M 1)) rfl dX11_brings_23 ?_
                  refine lv_aload_n hx hb dX11_brings_26 rfl (lv_at hl 2 rfl) ?_
                  refine q_get C h k_1205 fl_X11_79 (v := .int (nI (n + 1 + 1))) rfl dX11_brings_27 ?_
                  refine lv_iload_n hx hb dX11_brings_30 rfl (lv_at hl 0 rfl) ?_
                  refine lv_i2b (v := ((p0 >>> (0 &&& 31)) &&& 255).toInt8.toInt32) hx hb dX11_brings_31 rfl ?_
                  refine q_bast C h k_1204 (vp_in_nI (by omega) (by decide)) dX11_brings_32 (fun H locs h => ?_)
                  generalize ef_1209 : hu f_1203 (M 1) (.inl (G 0, 200, .inl (upd (upd (upd w0 (Int32.toNatClampNeg (nI n)) (vp_nar .byte (((p0 >>> (24 &&& 31)) &&& 255).toInt8.toInt32))) (Int32.toNatClampNeg (nI (n + 1))) (vp_nar .byte (((p0 >>> (8 &&& 31)) &&& 255).toInt8.toInt32))) (Int32.toNatClampNeg (nI (n + 1 + 1))) (vp_nar .byte (((p0 >>> (0 &&& 31)) &&& 255).toInt8.toInt32))))) = f_1209 at h
                  have k_1210 : f_1209 (M 0) = some (.inr (12, [.int 0, .ref (M 1), .int (nI (n + 1 + 1)), .int 0, .int 0, .ref (M 2), .ref (M 3), .ref (M 4), .ref (M 5), .ref (M 6), .int 0, .int 0, .ref (M 7), .ref (M 8), .int 0, .ref (M 9), .ref (M 10), .ref (M 11), .long 0, .ref (M 12), .ref (M 13), .ref (M 14), .ref (M 15), .ref (M 16), .ref (M 17), .ref (M 18), .ref (M 19), .int 0, .int 0, .ref (M 20), .ref (M 21), .int 0])) := by rw [← ef_1209]; exact hu_at k_1205 (hne (1, 200) (4, 12) k_1204 k_1205 rfl rfl (by decide))
                  have k_1211 : f_1209 (M 1) = some (.inl (G 0, 200, .inl (upd (upd (upd w0 (Int32.toNatClampNeg (nI n)) (vp_nar .byte (((p0 >>> (24 &&& 31)) &&& 255).toInt8.toInt32))) (Int32.toNatClampNeg (nI (n + 1))) (vp_nar .byte (((p0 >>> (8 &&& 31)) &&& 255).toInt8.toInt32))) (Int32.toNatClampNeg (nI (n + 1 + 1))) (vp_nar .byte (((p0 >>> (0 &&& 31)) &&& 255).toInt8.toInt32))))) := by rw [← ef_1209]; exact hu_self _ _ _
                  refine lv_aload_n hx hb dX11_brings_33 rfl (lv_at hl 2 rfl) ?_
                  refine lv_dup hx hb dX11_brings_34 rfl ?_
                  refine q_get C h k_1210 fl_X11_79 (v := .int (nI (n + 1 + 1))) rfl dX11_brings_35 ?_
                  refine lv_iconst (v := 1) hx hb dX11_brings_38 (by decide) ?_
                  refine lv_iadd hx hb dX11_brings_39 ?_
                  refine lv_topi (fun x_ e_ => ?_)
                  obtain rfl : nI (n + 1 + 1 + 1) = x_ := by rw [e_]; exact (nI_add (n + 1 + 1) (1)).symm
                  refine q_put C h k_1210 flw_X11_79 (Or.inr ⟨_, _, _, rfl, rfl⟩) (v := .int (nI (n + 1 + 1 + 1))) rfl rfl (Nat.le_of_ble_eq_true rfl) dX11_brings_40 (fun H locs h => ?_)
                  have h : hw D b0 s.heap (hu f_1209 (M 0) (.inr (12, [.int 0, .ref (M 1), .int (nI (n + 1 + 1 + 1)), .int 0, .int 0, .ref (M 2), .ref (M 3), .ref (M 4), .ref (M 5), .ref (M 6), .int 0, .int 0, .ref (M 7), .ref (M 8), .int 0, .ref (M 9), .ref (M 10), .ref (M 11), .long 0, .ref (M 12), .ref (M 13), .ref (M 14), .ref (M 15), .ref (M 16), .ref (M 17), .ref (M 18), .ref (M 19), .int 0, .int 0, .ref (M 20), .ref (M 21), .int 0]))) H locs := h
                  generalize ef_1212 : hu f_1209 (M 0) (.inr (12, [.int 0, .ref (M 1), .int (nI (n + 1 + 1 + 1)), .int 0, .int 0, .ref (M 2), .ref (M 3), .ref (M 4), .ref (M 5), .ref (M 6), .int 0, .int 0, .ref (M 7), .ref (M 8), .int 0, .ref (M 9), .ref (M 10), .ref (M 11), .long 0, .ref (M 12), .ref (M 13), .ref (M 14), .ref (M 15), .ref (M 16), .ref (M 17), .ref (M 18), .ref (M 19), .int 0, .int 0, .ref (M 20), .ref (M 21), .int 0])) = f_1212 at h
                  have k_1213 : f_1212 (M 1) = some (.inl (G 0, 200, .inl (upd (upd (upd w0 (Int32.toNatClampNeg (nI n)) (vp_nar .byte (((p0 >>> (24 &&& 31)) &&& 255).toInt8.toInt32))) (Int32.toNatClampNeg (nI (n + 1))) (vp_nar .byte (((p0 >>> (8 &&& 31)) &&& 255).toInt8.toInt32))) (Int32.toNatClampNeg (nI (n + 1 + 1))) (vp_nar .byte (((p0 >>> (0 &&& 31)) &&& 255).toInt8.toInt32))))) := by rw [← ef_1212]; exact hu_at k_1211 (hne (4, 12) (1, 200) k_1210 k_1211 rfl rfl (by decide))
                  have k_1214 : f_1212 (M 0) = some (.inr (12, [.int 0, .ref (M 1), .int (nI (n + 1 + 1 + 1)), .int 0, .int 0, .ref (M 2), .ref (M 3), .ref (M 4), .ref (M 5), .ref (M 6), .int 0, .int 0, .ref (M 7), .ref (M 8), .int 0, .ref (M 9), .ref (M 10), .ref (M 11), .long 0, .ref (M 12), .ref (M 13), .ref (M 14), .ref (M 15), .ref (M 16), .ref (M 17), .ref (M 18), .ref (M 19), .int 0, .int 0, .ref (M 20), .ref (M 21), .int 0])) := by rw [← ef_1212]; exact hu_self _ _ _
                  refine lv_iinc (v := -8) (lv' := [(2, .int (-8)), (3, .int ((p0 >>> (0 &&& 31)) &&& 255)), (0, .ref (M 0)), (1, .int p0)]) hx hb dX11_brings_43 hl (k := 1) rfl (by decide) (by decide) rfl (fun ls hl => ?_)
                  refine lv_goto (tgt := 3) hx hb dX11_brings_46 (by decide) ?_
                  refine lv_iload_n hx hb dX11_brings_3 rfl (lv_at hl 0 rfl) ?_
                  refine lv_if_lt (tgt := 49) hx hb dX11_brings_4 (by decide) (fun c_1215 => ?_) (fun c_1215 => ?_)
                  · exact q_vret C h hr (⟨by rw [show n + nzM p0 = n + 1 + 1 + 1 from (by unfold nzM nz1 sbt; rw [if_neg c_1149, if_pos c_1158, if_neg c_1198, if_neg c_1207]; try omega)]; exact k_1214, ⟨_, k_1213⟩⟩) (Nat.le_of_ble_eq_true rfl) (Nat.le_of_ble_eq_true rfl) dX11_brings_49
                  · exact absurd c_1215 (by decide)
                · refine lv_goto (tgt := 43) hx hb dX11_brings_19 (by decide) ?_
                  refine lv_iinc (v := -8) (lv' := [(2, .int (-8)), (3, .int ((p0 >>> (0 &&& 31)) &&& 255)), (0, .ref (M 0)), (1, .int p0)]) hx hb dX11_brings_43 hl (k := 1) rfl (by decide) (by decide) rfl (fun ls hl => ?_)
                  refine lv_goto (tgt := 3) hx hb dX11_brings_46 (by decide) ?_
                  refine lv_iload_n hx hb dX11_brings_3 rfl (lv_at hl 0 rfl) ?_
                  refine lv_if_lt (tgt := 49) hx hb dX11_brings_4 (by decide) (fun c_1216 => ?_) (fun c_1216 => ?_)
                  · exact q_vret C h hr (⟨by rw [show n + nzM p0 = n + 1 + 1 from (by unfold nzM nz1 sbt; rw [if_neg c_1149, if_pos c_1158, if_neg c_1198, if_pos c_1207]; try omega)]; exact k_1205, ⟨_, k_1204⟩⟩) (Nat.le_of_ble_eq_true rfl) (Nat.le_of_ble_eq_true rfl) dX11_brings_49
                  · exact absurd c_1216 (by decide)
            · refine lv_goto (tgt := 43) hx hb dX11_brings_19 (by decide) ?_
              refine lv_iinc (v := 0) (lv' := [(2, .int 0), (3, .int ((p0 >>> (8 &&& 31)) &&& 255)), (0, .ref (M 0)), (1, .int p0)]) hx hb dX11_brings_43 hl (k := 1) rfl (by decide) (by decide) rfl (fun ls hl => ?_)
              refine lv_goto (tgt := 3) hx hb dX11_brings_46 (by decide) ?_
              refine lv_iload_n hx hb dX11_brings_3 rfl (lv_at hl 0 rfl) ?_
              refine lv_if_lt (tgt := 49) hx hb dX11_brings_4 (by decide) (fun c_1217 => ?_) (fun c_1217 => ?_)
              · exact absurd c_1217 (by decide)
              · refine lv_iload_n hx hb dX11_brings_7 rfl (lv_at hl 3 rfl) ?_
                refine lv_iload_n hx hb dX11_brings_8 rfl (lv_at hl 0 rfl) ?_
                refine lv_ishr hx hb dX11_brings_9 ?_
                refine lv_sipush (v := 255) hx hb dX11_brings_10 (by decide) ?_
                refine lv_iand hx hb dX11_brings_13 ?_
                refine lv_istore_n (lv' := [(3, .int ((p0 >>> (0 &&& 31)) &&& 255)), (2, .int 0), (0, .ref (M 0)), (1, .int p0)]) hx hb dX11_brings_14 rfl hl (by decide) rfl (fun ls hl => ?_)
                refine lv_iload_n hx hb dX11_brings_15 rfl (lv_at hl 0 rfl) ?_
                refine lv_if_ne (tgt := 22) hx hb dX11_brings_16 (by decide) (fun c_1218 => ?_) (fun c_1218 => ?_)
                · refine lv_aload_n hx hb dX11_brings_22 rfl (lv_at hl 2 rfl) ?_
                  refine q_get C h k_1156 fl_X11_9 (v := .ref (M 1)) rfl dX11_brings_23 ?_
                  refine lv_aload_n hx hb dX11_brings_26 rfl (lv_at hl 2 rfl) ?_
                  refine q_get C h k_1156 fl_X11_79 (v := .int (nI (n + 1))) rfl dX11_brings_27 ?_
                  refine lv_iload_n hx hb dX11_brings_30 rfl (lv_at hl 0 rfl) ?_
                  refine lv_i2b (v := ((p0 >>> (0 &&& 31)) &&& 255).toInt8.toInt32) hx hb dX11_brings_31 rfl ?_
                  refine q_bast C h k_1155 (vp_in_nI (by omega) (by decide)) dX11_brings_32 (fun H locs h => ?_)
                  generalize ef_1220 : hu f_1154 (M 1) (.inl (G 0, 200, .inl (upd (upd w0 (Int32.toNatClampNeg (nI n)) (vp_nar .byte (((p0 >>> (24 &&& 31)) &&& 255).toInt8.toInt32))) (Int32.toNatClampNeg (nI (n + 1))) (vp_nar .byte (((p0 >>> (0 &&& 31)) &&& 255).toInt8.toInt32))))) = f_1220 at h
                  have k_1221 : f_1220 (M 0) = some (.inr (12, [.int 0, .ref (M 1), .int (nI (n + 1)), .int 0, .int 0, .ref (M 2), .ref (M 3), .ref (M 4), .ref (M 5), .ref (M 6), .int 0, .int 0, .ref (M 7), .ref (M 8), .int 0, .ref (M 9), .ref (M 10), .ref (M 11), .long 0, .ref (M 12), .ref (M 13), .ref (M 14), .ref (M 15), .ref (M 16), .ref (M 17), .ref (M 18), .ref (M 19), .int 0, .int 0, .ref (M 20), .ref (M 21), .int 0])) := by rw [← ef_1220]; exact hu_at k_1156 (hne (1, 200) (4, 12) k_1155 k_1156 rfl rfl (by decide))
                  have k_1222 : f_1220 (M 1) = some (.inl (G 0, 200, .inl (upd (upd w0 (Int32.toNatClampNeg (nI n)) (vp_nar .byte (((p0 >>> (24 &&& 31)) &&& 255).toInt8.toInt32))) (Int32.toNatClampNeg (nI (n + 1))) (vp_nar .byte (((p0 >>> (0 &&& 31)) &&& 255).toInt8.toInt32))))) := by rw [← ef_1220]; exact hu_self _ _ _
                  refine lv_aload_n hx hb dX11_brings_33 rfl (lv_at hl 2 rfl) ?_
                  refine lv_dup hx hb dX11_brings_34 rfl ?_
                  refine q_get C h k_1221 fl_X11_79 (v := .int (nI (n + 1))) rfl dX11_brings_35 ?_
                  refine lv_iconst (v := 1) hx hb dX11_brings_38 (by decide) ?_
                  refine lv_iadd hx hb dX11_brings_39 ?_
                  refine lv_topi (fun x_ e_ => ?_)
                  obtain rfl : nI (n + 1 + 1) = x_ := by rw [e_]; exact (nI_add (n + 1) (1)).symm
                  refine q_put C h k_1221 flw_X11_79 (Or.inr ⟨_, _, _, rfl, rfl⟩) (v := .int (nI (n + 1 + 1))) rfl rfl (Nat.le_of_ble_eq_true rfl) dX11_brings_40 (fun H locs h => ?_)
                  have h : hw D b0 s.heap (hu f_1220 (M 0) (.inr (12, [.int 0, .ref (M 1), .int (nI (n + 1 + 1)), .int 0, .int 0, .ref (M 2), .ref (M 3), .ref (M 4), .ref (M 5), .ref (M 6), .int 0, .int 0, .ref (M 7), .ref (M 8), .int 0, .ref (M 9), .ref (M 10), .ref (M 11), .long 0, .ref (M 12), .ref (M 13), .ref (M 14), .ref (M 15), .ref (M 16), .ref (M 17), .ref (M 18), .ref (M 19), .int 0, .int 0, .ref (M 20), .ref (M 21), .int 0]))) H locs := h
                  generalize ef_1223 : hu f_1220 (M 0) (.inr (12, [.int 0, .ref (M 1), .int (nI (n + 1 + 1)), .int 0, .int 0, .ref (M 2), .ref (M 3), .ref (M 4), .ref (M 5), .ref (M 6), .int 0, .int 0, .ref (M 7), .ref (M 8), .int 0, .ref (M 9), .ref (M 10), .ref (M 11), .long 0, .ref (M 12), .ref (M 13), .ref (M 14), .ref (M 15), .ref (M 16), .ref (M 17), .ref (M 18), .ref (M 19), .int 0, .int 0, .ref (M 20), .ref (M 21), .int 0])) = f_1223 at h
                  have k_1224 : f_1223 (M 1) = some (.inl (G 0, 200, .inl (upd (upd w0 (Int32.toNatClampNeg (nI n)) (vp_nar .byte (((p0 >>> (24 &&& 31)) &&& 255).toInt8.toInt32))) (Int32.toNatClampNeg (nI (n + 1))) (vp_nar .byte (((p0 >>> (0 &&& 31)) &&& 255).toInt8.toInt32))))) := by rw [← ef_1223]; exact hu_at k_1222 (hne (4, 12) (1, 200) k_1221 k_1222 rfl rfl (by decide))
                  have k_1225 : f_1223 (M 0) = some (.inr (12, [.int 0, .ref (M 1), .int (nI (n + 1 + 1)), .int 0, .int 0, .ref (M 2), .ref (M 3), .ref (M 4), .ref (M 5), .ref (M 6), .int 0, .int 0, .ref (M 7), .ref (M 8), .int 0, .ref (M 9), .ref (M 10), .ref (M 11), .long 0, .ref (M 12), .ref (M 13), .ref (M 14), .ref (M 15), .ref (M 16), .ref (M 17), .ref (M 18), .ref (M 19), .int 0, .int 0, .ref (M 20), .ref (M 21), .int 0])) := by rw [← ef_1223]; exact hu_self _ _ _
                  refine lv_iinc (v := -8) (lv' := [(2, .int (-8)), (3, .int ((p0 >>> (0 &&& 31)) &&& 255)), (0, .ref (M 0)), (1, .int p0)]) hx hb dX11_brings_43 hl (k := 1) rfl (by decide) (by decide) rfl (fun ls hl => ?_)
                  refine lv_goto (tgt := 3) hx hb dX11_brings_46 (by decide) ?_
                  refine lv_iload_n hx hb dX11_brings_3 rfl (lv_at hl 0 rfl) ?_
                  refine lv_if_lt (tgt := 49) hx hb dX11_brings_4 (by decide) (fun c_1226 => ?_) (fun c_1226 => ?_)
                  · exact q_vret C h hr (⟨by rw [show n + nzM p0 = n + 1 + 1 from (by unfold nzM nz1 sbt; rw [if_neg c_1149, if_pos c_1158, if_pos c_1198, if_neg c_1218]; try omega)]; exact k_1225, ⟨_, k_1224⟩⟩) (Nat.le_of_ble_eq_true rfl) (Nat.le_of_ble_eq_true rfl) dX11_brings_49
                  · exact absurd c_1226 (by decide)
                · refine lv_goto (tgt := 43) hx hb dX11_brings_19 (by decide) ?_
                  refine lv_iinc (v := -8) (lv' := [(2, .int (-8)), (3, .int ((p0 >>> (0 &&& 31)) &&& 255)), (0, .ref (M 0)), (1, .int p0)]) hx hb dX11_brings_43 hl (k := 1) rfl (by decide) (by decide) rfl (fun ls hl => ?_)
                  refine lv_goto (tgt := 3) hx hb dX11_brings_46 (by decide) ?_
                  refine lv_iload_n hx hb dX11_brings_3 rfl (lv_at hl 0 rfl) ?_
                  refine lv_if_lt (tgt := 49) hx hb dX11_brings_4 (by decide) (fun c_1227 => ?_) (fun c_1227 => ?_)
                  · exact q_vret C h hr (⟨by rw [show n + nzM p0 = n + 1 from (by unfold nzM nz1 sbt; rw [if_neg c_1149, if_pos c_1158, if_pos c_1198, if_pos c_1218]; try omega)]; exact k_1156, ⟨_, k_1155⟩⟩) (Nat.le_of_ble_eq_true rfl) (Nat.le_of_ble_eq_true rfl) dX11_brings_49
                  · exact absurd c_1227 (by decide)
    · refine lv_goto (tgt := 43) hx hb dX11_brings_19 (by decide) ?_
      refine lv_iinc (v := 16) (lv' := [(2, .int 16), (3, .int ((p0 >>> (24 &&& 31)) &&& 255)), (0, .ref (M 0)), (1, .int p0)]) hx hb dX11_brings_43 hl (k := 1) rfl (by decide) (by decide) rfl (fun ls hl => ?_)
      refine lv_goto (tgt := 3) hx hb dX11_brings_46 (by decide) ?_
      refine lv_iload_n hx hb dX11_brings_3 rfl (lv_at hl 0 rfl) ?_
      refine lv_if_lt (tgt := 49) hx hb dX11_brings_4 (by decide) (fun c_1228 => ?_) (fun c_1228 => ?_)
      · exact absurd c_1228 (by decide)
      · refine lv_iload_n hx hb dX11_brings_7 rfl (lv_at hl 3 rfl) ?_
        refine lv_iload_n hx hb dX11_brings_8 rfl (lv_at hl 0 rfl) ?_
        refine lv_ishr hx hb dX11_brings_9 ?_
        refine lv_sipush (v := 255) hx hb dX11_brings_10 (by decide) ?_
        refine lv_iand hx hb dX11_brings_13 ?_
        refine lv_istore_n (lv' := [(3, .int ((p0 >>> (16 &&& 31)) &&& 255)), (2, .int 16), (0, .ref (M 0)), (1, .int p0)]) hx hb dX11_brings_14 rfl hl (by decide) rfl (fun ls hl => ?_)
        refine lv_iload_n hx hb dX11_brings_15 rfl (lv_at hl 0 rfl) ?_
        refine lv_if_ne (tgt := 22) hx hb dX11_brings_16 (by decide) (fun c_1229 => ?_) (fun c_1229 => ?_)
        · refine lv_aload_n hx hb dX11_brings_22 rfl (lv_at hl 2 rfl) ?_
          refine q_get C h k1 fl_X11_9 (v := .ref (M 1)) rfl dX11_brings_23 ?_
          refine lv_aload_n hx hb dX11_brings_26 rfl (lv_at hl 2 rfl) ?_
          refine q_get C h k1 fl_X11_79 (v := .int (nI n)) rfl dX11_brings_27 ?_
          refine lv_iload_n hx hb dX11_brings_30 rfl (lv_at hl 0 rfl) ?_
          refine lv_i2b (v := ((p0 >>> (16 &&& 31)) &&& 255).toInt8.toInt32) hx hb dX11_brings_31 rfl ?_
          refine q_bast C h k2 (vp_in_nI (by omega) (by decide)) dX11_brings_32 (fun H locs h => ?_)
          generalize ef_1231 : hu f (M 1) (.inl (G 0, 200, .inl (upd w0 (Int32.toNatClampNeg (nI n)) (vp_nar .byte (((p0 >>> (16 &&& 31)) &&& 255).toInt8.toInt32))))) = f_1231 at h
          have k_1232 : f_1231 (M 0) = some (.inr (12, [.int 0, .ref (M 1), .int (nI n), .int 0, .int 0, .ref (M 2), .ref (M 3), .ref (M 4), .ref (M 5), .ref (M 6), .int 0, .int 0, .ref (M 7), .ref (M 8), .int 0, .ref (M 9), .ref (M 10), .ref (M 11), .long 0, .ref (M 12), .ref (M 13), .ref (M 14), .ref (M 15), .ref (M 16), .ref (M 17), .ref (M 18), .ref (M 19), .int 0, .int 0, .ref (M 20), .ref (M 21), .int 0])) := by rw [← ef_1231]; exact hu_at k1 (hne (1, 200) (4, 12) k2 k1 rfl rfl (by decide))
          have k_1233 : f_1231 (M 1) = some (.inl (G 0, 200, .inl (upd w0 (Int32.toNatClampNeg (nI n)) (vp_nar .byte (((p0 >>> (16 &&& 31)) &&& 255).toInt8.toInt32))))) := by rw [← ef_1231]; exact hu_self _ _ _
          refine lv_aload_n hx hb dX11_brings_33 rfl (lv_at hl 2 rfl) ?_
          refine lv_dup hx hb dX11_brings_34 rfl ?_
          refine q_get C h k_1232 fl_X11_79 (v := .int (nI n)) rfl dX11_brings_35 ?_
          refine lv_iconst (v := 1) hx hb dX11_brings_38 (by decide) ?_
          refine lv_iadd hx hb dX11_brings_39 ?_
          refine lv_topi (fun x_ e_ => ?_)
          obtain rfl : nI (n + 1) = x_ := by rw [e_]; exact (nI_add (n) (1)).symm
          refine q_put C h k_1232 flw_X11_79 (Or.inr ⟨_, _, _, rfl, rfl⟩) (v := .int (nI (n + 1))) rfl rfl (Nat.le_of_ble_eq_true rfl) dX11_brings_40 (fun H locs h => ?_)
          have h : hw D b0 s.heap (hu f_1231 (M 0) (.inr (12, [.int 0, .ref (M 1), .int (nI (n + 1)), .int 0, .int 0, .ref (M 2), .ref (M 3), .ref (M 4), .ref (M 5), .ref (M 6), .int 0, .int 0, .ref (M 7), .ref (M 8), .int 0, .ref (M 9), .ref (M 10), .ref (M 11), .long 0, .ref (M 12), .ref (M 13), .ref (M 14), .ref (M 15), .ref (M 16), .ref (M 17), .ref (M 18), .ref (M 19), .int 0, .int 0, .ref (M 20), .ref (M 21), .int 0]))) H locs := h
          generalize ef_1234 : hu f_1231 (M 0) (.inr (12, [.int 0, .ref (M 1), .int (nI (n + 1)), .int 0, .int 0, .ref (M 2), .ref (M 3), .ref (M 4), .ref (M 5), .ref (M 6), .int 0, .int 0, .ref (M 7), .ref (M 8), .int 0, .ref (M 9), .ref (M 10), .ref (M 11), .long 0, .ref (M 12), .ref (M 13), .ref (M 14), .ref (M 15), .ref (M 16), .ref (M 17), .ref (M 18), .ref (M 19), .int 0, .int 0, .ref (M 20), .ref (M 21), .int 0])) = f_1234 at h
          have k_1235 : f_1234 (M 1) = some (.inl (G 0, 200, .inl (upd w0 (Int32.toNatClampNeg (nI n)) (vp_nar .byte (((p0 >>> (16 &&& 31)) &&& 255).toInt8.toInt32))))) := by rw [← ef_1234]; exact hu_at k_1233 (hne (4, 12) (1, 200) k_1232 k_1233 rfl rfl (by decide))
          have k_1236 : f_1234 (M 0) = some (.inr (12, [.int 0, .ref (M 1), .int (nI (n + 1)), .int 0, .int 0, .ref (M 2), .ref (M 3), .ref (M 4), .ref (M 5), .ref (M 6), .int 0, .int 0, .ref (M 7), .ref (M 8), .int 0, .ref (M 9), .ref (M 10), .ref (M 11), .long 0, .ref (M 12), .ref (M 13), .ref (M 14), .ref (M 15), .ref (M 16), .ref (M 17), .ref (M 18), .ref (M 19), .int 0, .int 0, .ref (M 20), .ref (M 21), .int 0])) := by rw [← ef_1234]; exact hu_self _ _ _
          refine lv_iinc (v := 8) (lv' := [(2, .int 8), (3, .int ((p0 >>> (16 &&& 31)) &&& 255)), (0, .ref (M 0)), (1, .int p0)]) hx hb dX11_brings_43 hl (k := 1) rfl (by decide) (by decide) rfl (fun ls hl => ?_)
          refine lv_goto (tgt := 3) hx hb dX11_brings_46 (by decide) ?_
          refine lv_iload_n hx hb dX11_brings_3 rfl (lv_at hl 0 rfl) ?_
          refine lv_if_lt (tgt := 49) hx hb dX11_brings_4 (by decide) (fun c_1237 => ?_) (fun c_1237 => ?_)
          · exact absurd c_1237 (by decide)
          · refine lv_iload_n hx hb dX11_brings_7 rfl (lv_at hl 3 rfl) ?_
            refine lv_iload_n hx hb dX11_brings_8 rfl (lv_at hl 0 rfl) ?_
            refine lv_ishr hx hb dX11_brings_9 ?_
            refine lv_sipush (v := 255) hx hb dX11_brings_10 (by decide) ?_
            refine lv_iand hx hb dX11_brings_13 ?_
            refine lv_istore_n (lv' := [(3, .int ((p0 >>> (8 &&& 31)) &&& 255)), (2, .int 8), (0, .ref (M 0)), (1, .int p0)]) hx hb dX11_brings_14 rfl hl (by decide) rfl (fun ls hl => ?_)
            refine lv_iload_n hx hb dX11_brings_15 rfl (lv_at hl 0 rfl) ?_
            refine lv_if_ne (tgt := 22) hx hb dX11_brings_16 (by decide) (fun c_1238 => ?_) (fun c_1238 => ?_)
            · refine lv_aload_n hx hb dX11_brings_22 rfl (lv_at hl 2 rfl) ?_
              refine q_get C h k_1236 fl_X11_9 (v := .ref (M 1)) rfl dX11_brings_23 ?_
              refine lv_aload_n hx hb dX11_brings_26 rfl (lv_at hl 2 rfl) ?_
              refine q_get C h k_1236 fl_X11_79 (v := .int (nI (n + 1))) rfl dX11_brings_27 ?_
              refine lv_iload_n hx hb dX11_brings_30 rfl (lv_at hl 0 rfl) ?_
              refine lv_i2b (v := ((p0 >>> (8 &&& 31)) &&& 255).toInt8.toInt32) hx hb dX11_brings_31 rfl ?_
              refine q_bast C h k_1235 (vp_in_nI (by omega) (by decide)) dX11_brings_32 (fun H locs h => ?_)
              generalize ef_1240 : hu f_1234 (M 1) (.inl (G 0, 200, .inl (upd (upd w0 (Int32.toNatClampNeg (nI n)) (vp_nar .byte (((p0 >>> (16 &&& 31)) &&& 255).toInt8.toInt32))) (Int32.toNatClampNeg (nI (n + 1))) (vp_nar .byte (((p0 >>> (8 &&& 31)) &&& 255).toInt8.toInt32))))) = f_1240 at h
              have k_1241 : f_1240 (M 0) = some (.inr (12, [.int 0, .ref (M 1), .int (nI (n + 1)), .int 0, .int 0, .ref (M 2), .ref (M 3), .ref (M 4), .ref (M 5), .ref (M 6), .int 0, .int 0, .ref (M 7), .ref (M 8), .int 0, .ref (M 9), .ref (M 10), .ref (M 11), .long 0, .ref (M 12), .ref (M 13), .ref (M 14), .ref (M 15), .ref (M 16), .ref (M 17), .ref (M 18), .ref (M 19), .int 0, .int 0, .ref (M 20), .ref (M 21), .int 0])) := by rw [← ef_1240]; exact hu_at k_1236 (hne (1, 200) (4, 12) k_1235 k_1236 rfl rfl (by decide))
              have k_1242 : f_1240 (M 1) = some (.inl (G 0, 200, .inl (upd (upd w0 (Int32.toNatClampNeg (nI n)) (vp_nar .byte (((p0 >>> (16 &&& 31)) &&& 255).toInt8.toInt32))) (Int32.toNatClampNeg (nI (n + 1))) (vp_nar .byte (((p0 >>> (8 &&& 31)) &&& 255).toInt8.toInt32))))) := by rw [← ef_1240]; exact hu_self _ _ _
              refine lv_aload_n hx hb dX11_brings_33 rfl (lv_at hl 2 rfl) ?_
              refine lv_dup hx hb dX11_brings_34 rfl ?_
              refine q_get C h k_1241 fl_X11_79 (v := .int (nI (n + 1))) rfl dX11_brings_35 ?_
              refine lv_iconst (v := 1) hx hb dX11_brings_38 (by decide) ?_
              refine lv_iadd hx hb dX11_brings_39 ?_
              refine lv_topi (fun x_ e_ => ?_)
              obtain rfl : nI (n + 1 + 1) = x_ := by rw [e_]; exact (nI_add (n + 1) (1)).symm
              refine q_put C h k_1241 flw_X11_79 (Or.inr ⟨_, _, _, rfl, rfl⟩) (v := .int (nI (n + 1 + 1))) rfl rfl (Nat.le_of_ble_eq_true rfl) dX11_brings_40 (fun H locs h => ?_)
              have h : hw D b0 s.heap (hu f_1240 (M 0) (.inr (12, [.int 0, .ref (M 1), .int (nI (n + 1 + 1)), .int 0, .int 0, .ref (M 2), .ref (M 3), .ref (M 4), .ref (M 5), .ref (M 6), .int 0, .int 0, .ref (M 7), .ref (M 8), .int 0, .ref (M 9), .ref (M 10), .ref (M 11), .long 0, .ref (M 12), .ref (M 13), .ref (M 14), .ref (M 15), .ref (M 16), .ref (M 17), .ref (M 18), .ref (M 19), .int 0, .int 0, .ref (M 20), .ref (M 21), .int 0]))) H locs := h
              generalize ef_1243 : hu f_1240 (M 0) (.inr (12, [.int 0, .ref (M 1), .int (nI (n + 1 + 1)), .int 0, .int 0, .ref (M 2), .ref (M 3), .ref (M 4), .ref (M 5), .ref (M 6), .int 0, .int 0, .ref (M 7), .ref (M 8), .int 0, .ref (M 9), .ref (M 10), .ref (M 11), .long 0, .ref (M 12), .ref (M 13), .ref (M 14), .ref (M 15), .ref (M 16), .ref (M 17), .ref (M 18), .ref (M 19), .int 0, .int 0, .ref (M 20), .ref (M 21), .int 0])) = f_1243 at h
              have k_1244 : f_1243 (M 1) = some (.inl (G 0, 200, .inl (upd (upd w0 (Int32.toNatClampNeg (nI n)) (vp_nar .byte (((p0 >>> (16 &&& 31)) &&& 255).toInt8.toInt32))) (Int32.toNatClampNeg (nI (n + 1))) (vp_nar .byte (((p0 >>> (8 &&& 31)) &&& 255).toInt8.toInt32))))) := by rw [← ef_1243]; exact hu_at k_1242 (hne (4, 12) (1, 200) k_1241 k_1242 rfl rfl (by decide))
              have k_1245 : f_1243 (M 0) = some (.inr (12, [.int 0, .ref (M 1), .int (nI (n + 1 + 1)), .int 0, .int 0, .ref (M 2), .ref (M 3), .ref (M 4), .ref (M 5), .ref (M 6), .int 0, .int 0, .ref (M 7), .ref (M 8), .int 0, .ref (M 9), .ref (M 10), .ref (M 11), .long 0, .ref (M 12), .ref (M 13), .ref (M 14), .ref (M 15), .ref (M 16), .ref (M 17), .ref (M 18), .ref (M 19), .int 0, .int 0, .ref (M 20), .ref (M 21), .int 0])) := by rw [← ef_1243]; exact hu_self _ _ _
              refine lv_iinc (v := 0) (lv' := [(2, .int 0), (3, .int ((p0 >>> (8 &&& 31)) &&& 255)), (0, .ref (M 0)), (1, .int p0)]) hx hb dX11_brings_43 hl (k := 1) rfl (by decide) (by decide) rfl (fun ls hl => ?_)
              refine lv_goto (tgt := 3) hx hb dX11_brings_46 (by decide) ?_
              refine lv_iload_n hx hb dX11_brings_3 rfl (lv_at hl 0 rfl) ?_
              refine lv_if_lt (tgt := 49) hx hb dX11_brings_4 (by decide) (fun c_1246 => ?_) (fun c_1246 => ?_)
              · exact absurd c_1246 (by decide)
              · refine lv_iload_n hx hb dX11_brings_7 rfl (lv_at hl 3 rfl) ?_
                refine lv_iload_n hx hb dX11_brings_8 rfl (lv_at hl 0 rfl) ?_
                refine lv_ishr hx hb dX11_brings_9 ?_
                refine lv_sipush (v := 255) hx hb dX11_brings_10 (by decide) ?_
                refine lv_iand hx hb dX11_brings_13 ?_
                refine lv_istore_n (lv' := [(3, .int ((p0 >>> (0 &&& 31)) &&& 255)), (2, .int 0), (0, .ref (M 0)), (1, .int p0)]) hx hb dX11_brings_14 rfl hl (by decide) rfl (fun ls hl => ?_)
                refine lv_iload_n hx hb dX11_brings_15 rfl (lv_at hl 0 rfl) ?_
                refine lv_if_ne (tgt := 22) hx hb dX11_brings_16 (by decide) (fun c_1247 => ?_) (fun c_1247 => ?_)
                · refine lv_aload_n hx hb dX11_brings_22 rfl (lv_at hl 2 rfl) ?_
                  refine q_get C h k_1245 fl_X11_9 (v := .ref (M 1)) rfl dX11_brings_23 ?_
                  refine lv_aload_n hx hb dX11_brings_26 rfl (lv_at hl 2 rfl) ?_
                  refine q_get C h k_1245 fl_X11_79 (v := .int (nI (n + 1 + 1))) rfl dX11_brings_27 ?_
                  refine lv_iload_n hx hb dX11_brings_30 rfl (lv_at hl 0 rfl) ?_
                  refine lv_i2b (v := ((p0 >>> (0 &&& 31)) &&& 255).toInt8.toInt32) hx hb dX11_brings_31 rfl ?_
                  refine q_bast C h k_1244 (vp_in_nI (by omega) (by decide)) dX11_brings_32 (fun H locs h => ?_)
                  generalize ef_1249 : hu f_1243 (M 1) (.inl (G 0, 200, .inl (upd (upd (upd w0 (Int32.toNatClampNeg (nI n)) (vp_nar .byte (((p0 >>> (16 &&& 31)) &&& 255).toInt8.toInt32))) (Int32.toNatClampNeg (nI (n + 1))) (vp_nar .byte (((p0 >>> (8 &&& 31)) &&& 255).toInt8.toInt32))) (Int32.toNatClampNeg (nI (n + 1 + 1))) (vp_nar .byte (((p0 >>> (0 &&& 31)) &&& 255).toInt8.toInt32))))) = f_1249 at h
                  have k_1250 : f_1249 (M 0) = some (.inr (12, [.int 0, .ref (M 1), .int (nI (n + 1 + 1)), .int 0, .int 0, .ref (M 2), .ref (M 3), .ref (M 4), .ref (M 5), .ref (M 6), .int 0, .int 0, .ref (M 7), .ref (M 8), .int 0, .ref (M 9), .ref (M 10), .ref (M 11), .long 0, .ref (M 12), .ref (M 13), .ref (M 14), .ref (M 15), .ref (M 16), .ref (M 17), .ref (M 18), .ref (M 19), .int 0, .int 0, .ref (M 20), .ref (M 21), .int 0])) := by rw [← ef_1249]; exact hu_at k_1245 (hne (1, 200) (4, 12) k_1244 k_1245 rfl rfl (by decide))
                  have k_1251 : f_1249 (M 1) = some (.inl (G 0, 200, .inl (upd (upd (upd w0 (Int32.toNatClampNeg (nI n)) (vp_nar .byte (((p0 >>> (16 &&& 31)) &&& 255).toInt8.toInt32))) (Int32.toNatClampNeg (nI (n + 1))) (vp_nar .byte (((p0 >>> (8 &&& 31)) &&& 255).toInt8.toInt32))) (Int32.toNatClampNeg (nI (n + 1 + 1))) (vp_nar .byte (((p0 >>> (0 &&& 31)) &&& 255).toInt8.toInt32))))) := by rw [← ef_1249]; exact hu_self _ _ _
                  refine lv_aload_n hx hb dX11_brings_33 rfl (lv_at hl 2 rfl) ?_
                  refine lv_dup hx hb dX11_brings_34 rfl ?_
                  refine q_get C h k_1250 fl_X11_79 (v := .int (nI (n + 1 + 1))) rfl dX11_brings_35 ?_
                  refine lv_iconst (v := 1) hx hb dX11_brings_38 (by decide) ?_
                  refine lv_iadd hx hb dX11_brings_39 ?_
                  refine lv_topi (fun x_ e_ => ?_)
                  obtain rfl : nI (n + 1 + 1 + 1) = x_ := by rw [e_]; exact (nI_add (n + 1 + 1) (1)).symm
                  refine q_put C h k_1250 flw_X11_79 (Or.inr ⟨_, _, _, rfl, rfl⟩) (v := .int (nI (n + 1 + 1 + 1))) rfl rfl (Nat.le_of_ble_eq_true rfl) dX11_brings_40 (fun H locs h => ?_)
                  have h : hw D b0 s.heap (hu f_1249 (M 0) (.inr (12, [.int 0, .ref (M 1), .int (nI (n + 1 + 1 + 1)), .int 0, .int 0, .ref (M 2), .ref (M 3), .ref (M 4), .ref (M 5), .ref (M 6), .int 0, .int 0, .ref (M 7), .ref (M 8), .int 0, .ref (M 9), .ref (M 10), .ref (M 11), .long 0, .ref (M 12), .ref (M 13), .ref (M 14), .ref (M 15), .ref (M 16), .ref (M 17), .ref (M 18), .ref (M 19), .int 0, .int 0, .ref (M 20), .ref (M 21), .int 0]))) H locs := h
                  generalize ef_1252 : hu f_1249 (M 0) (.inr (12, [.int 0, .ref (M 1), .int (nI (n + 1 + 1 + 1)), .int 0, .int 0, .ref (M 2), .ref (M 3), .ref (M 4), .ref (M 5), .ref (M 6), .int 0, .int 0, .ref (M 7), .ref (M 8), .int 0, .ref (M 9), .ref (M 10), .ref (M 11), .long 0, .ref (M 12), .ref (M 13), .ref (M 14), .ref (M 15), .ref (M 16), .ref (M 17), .ref (M 18), .ref (M 19), .int 0, .int 0, .ref (M 20), .ref (M 21), .int 0])) = f_1252 at h
                  have k_1253 : f_1252 (M 1) = some (.inl (G 0, 200, .inl (upd (upd (upd w0 (Int32.toNatClampNeg (nI n)) (vp_nar .byte (((p0 >>> (16 &&& 31)) &&& 255).toInt8.toInt32))) (Int32.toNatClampNeg (nI (n + 1))) (vp_nar .byte (((p0 >>> (8 &&& 31)) &&& 255).toInt8.toInt32))) (Int32.toNatClampNeg (nI (n + 1 + 1))) (vp_nar .byte (((p0 >>> (0 &&& 31)) &&& 255).toInt8.toInt32))))) := by rw [← ef_1252]; exact hu_at k_1251 (hne (4, 12) (1, 200) k_1250 k_1251 rfl rfl (by decide))
                  have k_1254 : f_1252 (M 0) = some (.inr (12, [.int 0, .ref (M 1), .int (nI (n + 1 + 1 + 1)), .int 0, .int 0, .ref (M 2), .ref (M 3), .ref (M 4), .ref (M 5), .ref (M 6), .int 0, .int 0, .ref (M 7), .ref (M 8), .int 0, .ref (M 9), .ref (M 10), .ref (M 11), .long 0, .ref (M 12), .ref (M 13), .ref (M 14), .ref (M 15), .ref (M 16), .ref (M 17), .ref (M 18), .ref (M 19), .int 0, .int 0, .ref (M 20), .ref (M 21), .int 0])) := by rw [← ef_1252]; exact hu_self _ _ _
                  refine lv_iinc (v := -8) (lv' := [(2, .int (-8)), (3, .int ((p0 >>> (0 &&& 31)) &&& 255)), (0, .ref (M 0)), (1, .int p0)]) hx hb dX11_brings_43 hl (k := 1) rfl (by decide) (by decide) rfl (fun ls hl => ?_)
                  refine lv_goto (tgt := 3) hx hb dX11_brings_46 (by decide) ?_
                  refine lv_iload_n hx hb dX11_brings_3 rfl (lv_at hl 0 rfl) ?_
                  refine lv_if_lt (tgt := 49) hx hb dX11_brings_4 (by decide) (fun c_1255 => ?_) (fun c_1255 => ?_)
                  · exact q_vret C h hr (⟨by rw [show n + nzM p0 = n + 1 + 1 + 1 from (by unfold nzM nz1 sbt; rw [if_pos c_1149, if_neg c_1229, if_neg c_1238, if_neg c_1247]; try omega)]; exact k_1254, ⟨_, k_1253⟩⟩) (Nat.le_of_ble_eq_true rfl) (Nat.le_of_ble_eq_true rfl) dX11_brings_49
                  · exact absurd c_1255 (by decide)
                · refine lv_goto (tgt := 43) hx hb dX11_brings_19 (by decide) ?_
                  refine lv_iinc (v := -8) (lv' := [(2, .int (-8)), (3, .int ((p0 >>> (0 &&& 31)) &&& 255)), (0, .ref (M 0)), (1, .int p0)]) hx hb dX11_brings_43 hl (k := 1) rfl (by decide) (by decide) rfl (fun ls hl => ?_)
                  refine lv_goto (tgt := 3) hx hb dX11_brings_46 (by decide) ?_
                  refine lv_iload_n hx hb dX11_brings_3 rfl (lv_at hl 0 rfl) ?_
                  refine lv_if_lt (tgt := 49) hx hb dX11_brings_4 (by decide) (fun c_1256 => ?_) (fun c_1256 => ?_)
                  · exact q_vret C h hr (⟨by rw [show n + nzM p0 = n + 1 + 1 from (by unfold nzM nz1 sbt; rw [if_pos c_1149, if_neg c_1229, if_neg c_1238, if_pos c_1247]; try omega)]; exact k_1245, ⟨_, k_1244⟩⟩) (Nat.le_of_ble_eq_true rfl) (Nat.le_of_ble_eq_true rfl) dX11_brings_49
                  · exact absurd c_1256 (by decide)
            · refine lv_goto (tgt := 43) hx hb dX11_brings_19 (by decide) ?_
              refine lv_iinc (v := 0) (lv' := [(2, .int 0), (3, .int ((p0 >>> (8 &&& 31)) &&& 255)), (0, .ref (M 0)), (1, .int p0)]) hx hb dX11_brings_43 hl (k := 1) rfl (by decide) (by decide) rfl (fun ls hl => ?_)
              refine lv_goto (tgt := 3) hx hb dX11_brings_46 (by decide) ?_
              refine lv_iload_n hx hb dX11_brings_3 rfl (lv_at hl 0 rfl) ?_
              refine lv_if_lt (tgt := 49) hx hb dX11_brings_4 (by decide) (fun c_1257 => ?_) (fun c_1257 => ?_)
              · exact absurd c_1257 (by decide)
              · refine lv_iload_n hx hb dX11_brings_7 rfl (lv_at hl 3 rfl) ?_
                refine lv_iload_n hx hb dX11_brings_8 rfl (lv_at hl 0 rfl) ?_
                refine lv_ishr hx hb dX11_brings_9 ?_
                refine lv_sipush (v := 255) hx hb dX11_brings_10 (by decide) ?_
                refine lv_iand hx hb dX11_brings_13 ?_
                refine lv_istore_n (lv' := [(3, .int ((p0 >>> (0 &&& 31)) &&& 255)), (2, .int 0), (0, .ref (M 0)), (1, .int p0)]) hx hb dX11_brings_14 rfl hl (by decide) rfl (fun ls hl => ?_)
                refine lv_iload_n hx hb dX11_brings_15 rfl (lv_at hl 0 rfl) ?_
                refine lv_if_ne (tgt := 22) hx hb dX11_brings_16 (by decide) (fun c_1258 => ?_) (fun c_1258 => ?_)
                · refine lv_aload_n hx hb dX11_brings_22 rfl (lv_at hl 2 rfl) ?_
                  refine q_get C h k_1236 fl_X11_9 (v := .ref (M 1)) rfl dX11_brings_23 ?_
                  refine lv_aload_n hx hb dX11_brings_26 rfl (lv_at hl 2 rfl) ?_
                  refine q_get C h k_1236 fl_X11_79 (v := .int (nI (n + 1))) rfl dX11_brings_27 ?_
                  refine lv_iload_n hx hb dX11_brings_30 rfl (lv_at hl 0 rfl) ?_
                  refine lv_i2b (v := ((p0 >>> (0 &&& 31)) &&& 255).toInt8.toInt32) hx hb dX11_brings_31 rfl ?_
                  refine q_bast C h k_1235 (vp_in_nI (by omega) (by decide)) dX11_brings_32 (fun H locs h => ?_)
                  generalize ef_1260 : hu f_1234 (M 1) (.inl (G 0, 200, .inl (upd (upd w0 (Int32.toNatClampNeg (nI n)) (vp_nar .byte (((p0 >>> (16 &&& 31)) &&& 255).toInt8.toInt32))) (Int32.toNatClampNeg (nI (n + 1))) (vp_nar .byte (((p0 >>> (0 &&& 31)) &&& 255).toInt8.toInt32))))) = f_1260 at h
                  have k_1261 : f_1260 (M 0) = some (.inr (12, [.int 0, .ref (M 1), .int (nI (n + 1)), .int 0, .int 0, .ref (M 2), .ref (M 3), .ref (M 4), .ref (M 5), .ref (M 6), .int 0, .int 0, .ref (M 7), .ref (M 8), .int 0, .ref (M 9), .ref (M 10), .ref (M 11), .long 0, .ref (M 12), .ref (M 13), .ref (M 14), .ref (M 15), .ref (M 16), .ref (M 17), .ref (M 18), .ref (M 19), .int 0, .int 0, .ref (M 20), .ref (M 21), .int 0])) := by rw [← ef_1260]; exact hu_at k_1236 (hne (1, 200) (4, 12) k_1235 k_1236 rfl rfl (by decide))
                  have k_1262 : f_1260 (M 1) = some (.inl (G 0, 200, .inl (upd (upd w0 (Int32.toNatClampNeg (nI n)) (vp_nar .byte (((p0 >>> (16 &&& 31)) &&& 255).toInt8.toInt32))) (Int32.toNatClampNeg (nI (n + 1))) (vp_nar .byte (((p0 >>> (0 &&& 31)) &&& 255).toInt8.toInt32))))) := by rw [← ef_1260]; exact hu_self _ _ _
                  refine lv_aload_n hx hb dX11_brings_33 rfl (lv_at hl 2 rfl) ?_
                  refine lv_dup hx hb dX11_brings_34 rfl ?_
                  refine q_get C h k_1261 fl_X11_79 (v := .int (nI (n + 1))) rfl dX11_brings_35 ?_
                  refine lv_iconst (v := 1) hx hb dX11_brings_38 (by decide) ?_
                  refine lv_iadd hx hb dX11_brings_39 ?_
                  refine lv_topi (fun x_ e_ => ?_)
                  obtain rfl : nI (n + 1 + 1) = x_ := by rw [e_]; exact (nI_add (n + 1) (1)).symm
                  refine q_put C h k_1261 flw_X11_79 (Or.inr ⟨_, _, _, rfl, rfl⟩) (v := .int (nI (n + 1 + 1))) rfl rfl (Nat.le_of_ble_eq_true rfl) dX11_brings_40 (fun H locs h => ?_)
                  have h : hw D b0 s.heap (hu f_1260 (M 0) (.inr (12, [.int 0, .ref (M 1), .int (nI (n + 1 + 1)), .int 0, .int 0, .ref (M 2), .ref (M 3), .ref (M 4), .ref (M 5), .ref (M 6), .int 0, .int 0, .ref (M 7), .ref (M 8), .int 0, .ref (M 9), .ref (M 10), .ref (M 11), .long 0, .ref (M 12), .ref (M 13), .ref (M 14), .ref (M 15), .ref (M 16), .ref (M 17), .ref (M 18), .ref (M 19), .int 0, .int 0, .ref (M 20), .ref (M 21), .int 0]))) H locs := h
                  generalize ef_1263 : hu f_1260 (M 0) (.inr (12, [.int 0, .ref (M 1), .int (nI (n + 1 + 1)), .int 0, .int 0, .ref (M 2), .ref (M 3), .ref (M 4), .ref (M 5), .ref (M 6), .int 0, .int 0, .ref (M 7), .ref (M 8), .int 0, .ref (M 9), .ref (M 10), .ref (M 11), .long 0, .ref (M 12), .ref (M 13), .ref (M 14), .ref (M 15), .ref (M 16), .ref (M 17), .ref (M 18), .ref (M 19), .int 0, .int 0, .ref (M 20), .ref (M 21), .int 0])) = f_1263 at h
                  have k_1264 : f_1263 (M 1) = some (.inl (G 0, 200, .inl (upd (upd w0 (Int32.toNatClampNeg (nI n)) (vp_nar .byte (((p0 >>> (16 &&& 31)) &&& 255).toInt8.toInt32))) (Int32.toNatClampNeg (nI (n + 1))) (vp_nar .byte (((p0 >>> (0 &&& 31)) &&& 255).toInt8.toInt32))))) := by rw [← ef_1263]; exact hu_at k_1262 (hne (4, 12) (1, 200) k_1261 k_1262 rfl rfl (by decide))
                  have k_1265 : f_1263 (M 0) = some (.inr (12, [.int 0, .ref (M 1), .int (nI (n + 1 + 1)), .int 0, .int 0, .ref (M 2), .ref (M 3), .ref (M 4), .ref (M 5), .ref (M 6), .int 0, .int 0, .ref (M 7), .ref (M 8), .int 0, .ref (M 9), .ref (M 10), .ref (M 11), .long 0, .ref (M 12), .ref (M 13), .ref (M 14), .ref (M 15), .ref (M 16), .ref (M 17), .ref (M 18), .ref (M 19), .int 0, .int 0, .ref (M 20), .ref (M 21), .int 0])) := by rw [← ef_1263]; exact hu_self _ _ _
                  refine lv_iinc (v := -8) (lv' := [(2, .int (-8)), (3, .int ((p0 >>> (0 &&& 31)) &&& 255)), (0, .ref (M 0)), (1, .int p0)]) hx hb dX11_brings_43 hl (k := 1) rfl (by decide) (by decide) rfl (fun ls hl => ?_)
                  refine lv_goto (tgt := 3) hx hb dX11_brings_46 (by decide) ?_
                  refine lv_iload_n hx hb dX11_brings_3 rfl (lv_at hl 0 rfl) ?_
                  refine lv_if_lt (tgt := 49) hx hb dX11_brings_4 (by decide) (fun c_1266 => ?_) (fun c_1266 => ?_)
                  · exact q_vret C h hr (⟨by rw [show n + nzM p0 = n + 1 + 1 from (by unfold nzM nz1 sbt; rw [if_pos c_1149, if_neg c_1229, if_pos c_1238, if_neg c_1258]; try omega)]; exact k_1265, ⟨_, k_1264⟩⟩) (Nat.le_of_ble_eq_true rfl) (Nat.le_of_ble_eq_true rfl) dX11_brings_49
                  · exact absurd c_1266 (by decide)
                · refine lv_goto (tgt := 43) hx hb dX11_brings_19 (by decide) ?_
                  refine lv_iinc (v := -8) (lv' := [(2, .int (-8)), (3, .int ((p0 >>> (0 &&& 31)) &&& 255)), (0, .ref (M 0)), (1, .int p0)]) hx hb dX11_brings_43 hl (k := 1) rfl (by decide) (by decide) rfl (fun ls hl => ?_)
                  refine lv_goto (tgt := 3) hx hb dX11_brings_46 (by decide) ?_
                  refine lv_iload_n hx hb dX11_brings_3 rfl (lv_at hl 0 rfl) ?_
                  refine lv_if_lt (tgt := 49) hx hb dX11_brings_4 (by decide) (fun c_1267 => ?_) (fun c_1267 => ?_)
                  · exact q_vret C h hr (⟨by rw [show n + nzM p0 = n + 1 from (by unfold nzM nz1 sbt; rw [if_pos c_1149, if_neg c_1229, if_pos c_1238, if_pos c_1258]; try omega)]; exact k_1236, ⟨_, k_1235⟩⟩) (Nat.le_of_ble_eq_true rfl) (Nat.le_of_ble_eq_true rfl) dX11_brings_49
                  · exact absurd c_1267 (by decide)
        · refine lv_goto (tgt := 43) hx hb dX11_brings_19 (by decide) ?_
          refine lv_iinc (v := 8) (lv' := [(2, .int 8), (3, .int ((p0 >>> (16 &&& 31)) &&& 255)), (0, .ref (M 0)), (1, .int p0)]) hx hb dX11_brings_43 hl (k := 1) rfl (by decide) (by decide) rfl (fun ls hl => ?_)
          refine lv_goto (tgt := 3) hx hb dX11_brings_46 (by decide) ?_
          refine lv_iload_n hx hb dX11_brings_3 rfl (lv_at hl 0 rfl) ?_
          refine lv_if_lt (tgt := 49) hx hb dX11_brings_4 (by decide) (fun c_1268 => ?_) (fun c_1268 => ?_)
          · exact absurd c_1268 (by decide)
          · refine lv_iload_n hx hb dX11_brings_7 rfl (lv_at hl 3 rfl) ?_
            refine lv_iload_n hx hb dX11_brings_8 rfl (lv_at hl 0 rfl) ?_
            refine lv_ishr hx hb dX11_brings_9 ?_
            refine lv_sipush (v := 255) hx hb dX11_brings_10 (by decide) ?_
            refine lv_iand hx hb dX11_brings_13 ?_
            refine lv_istore_n (lv' := [(3, .int ((p0 >>> (8 &&& 31)) &&& 255)), (2, .int 8), (0, .ref (M 0)), (1, .int p0)]) hx hb dX11_brings_14 rfl hl (by decide) rfl (fun ls hl => ?_)
            refine lv_iload_n hx hb dX11_brings_15 rfl (lv_at hl 0 rfl) ?_
            refine lv_if_ne (tgt := 22) hx hb dX11_brings_16 (by decide) (fun c_1269 => ?_) (fun c_1269 => ?_)
            · refine lv_aload_n hx hb dX11_brings_22 rfl (lv_at hl 2 rfl) ?_
              refine q_get C h k1 fl_X11_9 (v := .ref (M 1)) rfl dX11_brings_23 ?_
              refine lv_aload_n hx hb dX11_brings_26 rfl (lv_at hl 2 rfl) ?_
              refine q_get C h k1 fl_X11_79 (v := .int (nI n)) rfl dX11_brings_27 ?_
              refine lv_iload_n hx hb dX11_brings_30 rfl (lv_at hl 0 rfl) ?_
              refine lv_i2b (v := ((p0 >>> (8 &&& 31)) &&& 255).toInt8.toInt32) hx hb dX11_brings_31 rfl ?_
              refine q_bast C h k2 (vp_in_nI (by omega) (by decide)) dX11_brings_32 (fun H locs h => ?_)
              generalize ef_1271 : hu f (M 1) (.inl (G 0, 200, .inl (upd w0 (Int32.toNatClampNeg (nI n)) (vp_nar .byte (((p0 >>> (8 &&& 31)) &&& 255).toInt8.toInt32))))) = f_1271 at h
              have k_1272 : f_1271 (M 0) = some (.inr (12, [.int 0, .ref (M 1), .int (nI n), .int 0, .int 0, .ref (M 2), .ref (M 3), .ref (M 4), .ref (M 5), .ref (M 6), .int 0, .int 0, .ref (M 7), .ref (M 8), .int 0, .ref (M 9), .ref (M 10), .ref (M 11), .long 0, .ref (M 12), .ref (M 13), .ref (M 14), .ref (M 15), .ref (M 16), .ref (M 17), .ref (M 18), .ref (M 19), .int 0, .int 0, .ref (M 20), .ref (M 21), .int 0])) := by rw [← ef_1271]; exact hu_at k1 (hne (1, 200) (4, 12) k2 k1 rfl rfl (by decide))
              have k_1273 : f_1271 (M 1) = some (.inl (G 0, 200, .inl (upd w0 (Int32.toNatClampNeg (nI n)) (vp_nar .byte (((p0 >>> (8 &&& 31)) &&& 255).toInt8.toInt32))))) := by rw [← ef_1271]; exact hu_self _ _ _
              refine lv_aload_n hx hb dX11_brings_33 rfl (lv_at hl 2 rfl) ?_
              refine lv_dup hx hb dX11_brings_34 rfl ?_
              refine q_get C h k_1272 fl_X11_79 (v := .int (nI n)) rfl dX11_brings_35 ?_
              refine lv_iconst (v := 1) hx hb dX11_brings_38 (by decide) ?_
              refine lv_iadd hx hb dX11_brings_39 ?_
              refine lv_topi (fun x_ e_ => ?_)
              obtain rfl : nI (n + 1) = x_ := by rw [e_]; exact (nI_add (n) (1)).symm
              refine q_put C h k_1272 flw_X11_79 (Or.inr ⟨_, _, _, rfl, rfl⟩) (v := .int (nI (n + 1))) rfl rfl (Nat.le_of_ble_eq_true rfl) dX11_brings_40 (fun H locs h => ?_)
              have h : hw D b0 s.heap (hu f_1271 (M 0) (.inr (12, [.int 0, .ref (M 1), .int (nI (n + 1)), .int 0, .int 0, .ref (M 2), .ref (M 3), .ref (M 4), .ref (M 5), .ref (M 6), .int 0, .int 0, .ref (M 7), .ref (M 8), .int 0, .ref (M 9), .ref (M 10), .ref (M 11), .long 0, .ref (M 12), .ref (M 13), .ref (M 14), .ref (M 15), .ref (M 16), .ref (M 17), .ref (M 18), .ref (M 19), .int 0, .int 0, .ref (M 20), .ref (M 21), .int 0]))) H locs := h
              generalize ef_1274 : hu f_1271 (M 0) (.inr (12, [.int 0, .ref (M 1), .int (nI (n + 1)), .int 0, .int 0, .ref (M 2), .ref (M 3), .ref (M 4), .ref (M 5), .ref (M 6), .int 0, .int 0, .ref (M 7), .ref (M 8), .int 0, .ref (M 9), .ref (M 10), .ref (M 11), .long 0, .ref (M 12), .ref (M 13), .ref (M 14), .ref (M 15), .ref (M 16), .ref (M 17), .ref (M 18), .ref (M 19), .int 0, .int 0, .ref (M 20), .ref (M 21), .int 0])) = f_1274 at h
              have k_1275 : f_1274 (M 1) = some (.inl (G 0, 200, .inl (upd w0 (Int32.toNatClampNeg (nI n)) (vp_nar .byte (((p0 >>> (8 &&& 31)) &&& 255).toInt8.toInt32))))) := by rw [← ef_1274]; exact hu_at k_1273 (hne (4, 12) (1, 200) k_1272 k_1273 rfl rfl (by decide))
              have k_1276 : f_1274 (M 0) = some (.inr (12, [.int 0, .ref (M 1), .int (nI (n + 1)), .int 0, .int 0, .ref (M 2), .ref (M 3), .ref (M 4), .ref (M 5), .ref (M 6), .int 0, .int 0, .ref (M 7), .ref (M 8), .int 0, .ref (M 9), .ref (M 10), .ref (M 11), .long 0, .ref (M 12), .ref (M 13), .ref (M 14), .ref (M 15), .ref (M 16), .ref (M 17), .ref (M 18), .ref (M 19), .int 0, .int 0, .ref (M 20), .ref (M 21), .int 0])) := by rw [← ef_1274]; exact hu_self _ _ _
              refine lv_iinc (v := 0) (lv' := [(2, .int 0), (3, .int ((p0 >>> (8 &&& 31)) &&& 255)), (0, .ref (M 0)), (1, .int p0)]) hx hb dX11_brings_43 hl (k := 1) rfl (by decide) (by decide) rfl (fun ls hl => ?_)
              refine lv_goto (tgt := 3) hx hb dX11_brings_46 (by decide) ?_
              refine lv_iload_n hx hb dX11_brings_3 rfl (lv_at hl 0 rfl) ?_
              refine lv_if_lt (tgt := 49) hx hb dX11_brings_4 (by decide) (fun c_1277 => ?_) (fun c_1277 => ?_)
              · exact absurd c_1277 (by decide)
              · refine lv_iload_n hx hb dX11_brings_7 rfl (lv_at hl 3 rfl) ?_
                refine lv_iload_n hx hb dX11_brings_8 rfl (lv_at hl 0 rfl) ?_
                refine lv_ishr hx hb dX11_brings_9 ?_
                refine lv_sipush (v := 255) hx hb dX11_brings_10 (by decide) ?_
                refine lv_iand hx hb dX11_brings_13 ?_
                refine lv_istore_n (lv' := [(3, .int ((p0 >>> (0 &&& 31)) &&& 255)), (2, .int 0), (0, .ref (M 0)), (1, .int p0)]) hx hb dX11_brings_14 rfl hl (by decide) rfl (fun ls hl => ?_)
                refine lv_iload_n hx hb dX11_brings_15 rfl (lv_at hl 0 rfl) ?_
                refine lv_if_ne (tgt := 22) hx hb dX11_brings_16 (by decide) (fun c_1278 => ?_) (fun c_1278 => ?_)
                · refine lv_aload_n hx hb dX11_brings_22 rfl (lv_at hl 2 rfl) ?_
                  refine q_get C h k_1276 fl_X11_9 (v := .ref (M 1)) rfl dX11_brings_23 ?_
                  refine lv_aload_n hx hb dX11_brings_26 rfl (lv_at hl 2 rfl) ?_
                  refine q_get C h k_1276 fl_X11_79 (v := .int (nI (n + 1))) rfl dX11_brings_27 ?_
                  refine lv_iload_n hx hb dX11_brings_30 rfl (lv_at hl 0 rfl) ?_
                  refine lv_i2b (v := ((p0 >>> (0 &&& 31)) &&& 255).toInt8.toInt32) hx hb dX11_brings_31 rfl ?_
                  refine q_bast C h k_1275 (vp_in_nI (by omega) (by decide)) dX11_brings_32 (fun H locs h => ?_)
                  generalize ef_1280 : hu f_1274 (M 1) (.inl (G 0, 200, .inl (upd (upd w0 (Int32.toNatClampNeg (nI n)) (vp_nar .byte (((p0 >>> (8 &&& 31)) &&& 255).toInt8.toInt32))) (Int32.toNatClampNeg (nI (n + 1))) (vp_nar .byte (((p0 >>> (0 &&& 31)) &&& 255).toInt8.toInt32))))) = f_1280 at h
                  have k_1281 : f_1280 (M 0) = some (.inr (12, [.int 0, .ref (M 1), .int (nI (n + 1)), .int 0, .int 0, .ref (M 2), .ref (M 3), .ref (M 4), .ref (M 5), .ref (M 6), .int 0, .int 0, .ref (M 7), .ref (M 8), .int 0, .ref (M 9), .ref (M 10), .ref (M 11), .long 0, .ref (M 12), .ref (M 13), .ref (M 14), .ref (M 15), .ref (M 16), .ref (M 17), .ref (M 18), .ref (M 19), .int 0, .int 0, .ref (M 20), .ref (M 21), .int 0])) := by rw [← ef_1280]; exact hu_at k_1276 (hne (1, 200) (4, 12) k_1275 k_1276 rfl rfl (by decide))
                  have k_1282 : f_1280 (M 1) = some (.inl (G 0, 200, .inl (upd (upd w0 (Int32.toNatClampNeg (nI n)) (vp_nar .byte (((p0 >>> (8 &&& 31)) &&& 255).toInt8.toInt32))) (Int32.toNatClampNeg (nI (n + 1))) (vp_nar .byte (((p0 >>> (0 &&& 31)) &&& 255).toInt8.toInt32))))) := by rw [← ef_1280]; exact hu_self _ _ _
                  refine lv_aload_n hx hb dX11_brings_33 rfl (lv_at hl 2 rfl) ?_
                  refine lv_dup hx hb dX11_brings_34 rfl ?_
                  refine q_get C h k_1281 fl_X11_79 (v := .int (nI (n + 1))) rfl dX11_brings_35 ?_
                  refine lv_iconst (v := 1) hx hb dX11_brings_38 (by decide) ?_
                  refine lv_iadd hx hb dX11_brings_39 ?_
                  refine lv_topi (fun x_ e_ => ?_)
                  obtain rfl : nI (n + 1 + 1) = x_ := by rw [e_]; exact (nI_add (n + 1) (1)).symm
                  refine q_put C h k_1281 flw_X11_79 (Or.inr ⟨_, _, _, rfl, rfl⟩) (v := .int (nI (n + 1 + 1))) rfl rfl (Nat.le_of_ble_eq_true rfl) dX11_brings_40 (fun H locs h => ?_)
                  have h : hw D b0 s.heap (hu f_1280 (M 0) (.inr (12, [.int 0, .ref (M 1), .int (nI (n + 1 + 1)), .int 0, .int 0, .ref (M 2), .ref (M 3), .ref (M 4), .ref (M 5), .ref (M 6), .int 0, .int 0, .ref (M 7), .ref (M 8), .int 0, .ref (M 9), .ref (M 10), .ref (M 11), .long 0, .ref (M 12), .ref (M 13), .ref (M 14), .ref (M 15), .ref (M 16), .ref (M 17), .ref (M 18), .ref (M 19), .int 0, .int 0, .ref (M 20), .ref (M 21), .int 0]))) H locs := h
                  generalize ef_1283 : hu f_1280 (M 0) (.inr (12, [.int 0, .ref (M 1), .int (nI (n + 1 + 1)), .int 0, .int 0, .ref (M 2), .ref (M 3), .ref (M 4), .ref (M 5), .ref (M 6), .int 0, .int 0, .ref (M 7), .ref (M 8), .int 0, .ref (M 9), .ref (M 10), .ref (M 11), .long 0, .ref (M 12), .ref (M 13), .ref (M 14), .ref (M 15), .ref (M 16), .ref (M 17), .ref (M 18), .ref (M 19), .int 0, .int 0, .ref (M 20), .ref (M 21), .int 0])) = f_1283 at h
                  have k_1284 : f_1283 (M 1) = some (.inl (G 0, 200, .inl (upd (upd w0 (Int32.toNatClampNeg (nI n)) (vp_nar .byte (((p0 >>> (8 &&& 31)) &&& 255).toInt8.toInt32))) (Int32.toNatClampNeg (nI (n + 1))) (vp_nar .byte (((p0 >>> (0 &&& 31)) &&& 255).toInt8.toInt32))))) := by rw [← ef_1283]; exact hu_at k_1282 (hne (4, 12) (1, 200) k_1281 k_1282 rfl rfl (by decide))
                  have k_1285 : f_1283 (M 0) = some (.inr (12, [.int 0, .ref (M 1), .int (nI (n + 1 + 1)), .int 0, .int 0, .ref (M 2), .ref (M 3), .ref (M 4), .ref (M 5), .ref (M 6), .int 0, .int 0, .ref (M 7), .ref (M 8), .int 0, .ref (M 9), .ref (M 10), .ref (M 11), .long 0, .ref (M 12), .ref (M 13), .ref (M 14), .ref (M 15), .ref (M 16), .ref (M 17), .ref (M 18), .ref (M 19), .int 0, .int 0, .ref (M 20), .ref (M 21), .int 0])) := by rw [← ef_1283]; exact hu_self _ _ _
                  refine lv_iinc (v := -8) (lv' := [(2, .int (-8)), (3, .int ((p0 >>> (0 &&& 31)) &&& 255)), (0, .ref (M 0)), (1, .int p0)]) hx hb dX11_brings_43 hl (k := 1) rfl (by decide) (by decide) rfl (fun ls hl => ?_)
                  refine lv_goto (tgt := 3) hx hb dX11_brings_46 (by decide) ?_
                  refine lv_iload_n hx hb dX11_brings_3 rfl (lv_at hl 0 rfl) ?_
                  refine lv_if_lt (tgt := 49) hx hb dX11_brings_4 (by decide) (fun c_1286 => ?_) (fun c_1286 => ?_)
                  · exact q_vret C h hr (⟨by rw [show n + nzM p0 = n + 1 + 1 from (by unfold nzM nz1 sbt; rw [if_pos c_1149, if_pos c_1229, if_neg c_1269, if_neg c_1278]; try omega)]; exact k_1285, ⟨_, k_1284⟩⟩) (Nat.le_of_ble_eq_true rfl) (Nat.le_of_ble_eq_true rfl) dX11_brings_49
                  · exact absurd c_1286 (by decide)
                · refine lv_goto (tgt := 43) hx hb dX11_brings_19 (by decide) ?_
                  refine lv_iinc (v := -8) (lv' := [(2, .int (-8)), (3, .int ((p0 >>> (0 &&& 31)) &&& 255)), (0, .ref (M 0)), (1, .int p0)]) hx hb dX11_brings_43 hl (k := 1) rfl (by decide) (by decide) rfl (fun ls hl => ?_)
                  refine lv_goto (tgt := 3) hx hb dX11_brings_46 (by decide) ?_
                  refine lv_iload_n hx hb dX11_brings_3 rfl (lv_at hl 0 rfl) ?_
                  refine lv_if_lt (tgt := 49) hx hb dX11_brings_4 (by decide) (fun c_1287 => ?_) (fun c_1287 => ?_)
                  · exact q_vret C h hr (⟨by rw [show n + nzM p0 = n + 1 from (by unfold nzM nz1 sbt; rw [if_pos c_1149, if_pos c_1229, if_neg c_1269, if_pos c_1278]; try omega)]; exact k_1276, ⟨_, k_1275⟩⟩) (Nat.le_of_ble_eq_true rfl) (Nat.le_of_ble_eq_true rfl) dX11_brings_49
                  · exact absurd c_1287 (by decide)
            · refine lv_goto (tgt := 43) hx hb dX11_brings_19 (by decide) ?_
              refine lv_iinc (v := 0) (lv' := [(2, .int 0), (3, .int ((p0 >>> (8 &&& 31)) &&& 255)), (0, .ref (M 0)), (1, .int p0)]) hx hb dX11_brings_43 hl (k := 1) rfl (by decide) (by decide) rfl (fun ls hl => ?_)
              refine lv_goto (tgt := 3) hx hb dX11_brings_46 (by decide) ?_
              refine lv_iload_n hx hb dX11_brings_3 rfl (lv_at hl 0 rfl) ?_
              refine lv_if_lt (tgt := 49) hx hb dX11_brings_4 (by decide) (fun c_1288 => ?_) (fun c_1288 => ?_)
              · exact absurd c_1288 (by decide)
              · refine lv_iload_n hx hb dX11_brings_7 rfl (lv_at hl 3 rfl) ?_
                refine lv_iload_n hx hb dX11_brings_8 rfl (lv_at hl 0 rfl) ?_
                refine lv_ishr hx hb dX11_brings_9 ?_
                refine lv_sipush (v := 255) hx hb dX11_brings_10 (by decide) ?_
                refine lv_iand hx hb dX11_brings_13 ?_
                refine lv_istore_n (lv' := [(3, .int ((p0 >>> (0 &&& 31)) &&& 255)), (2, .int 0), (0, .ref (M 0)), (1, .int p0)]) hx hb dX11_brings_14 rfl hl (by decide) rfl (fun ls hl => ?_)
                refine lv_iload_n hx hb dX11_brings_15 rfl (lv_at hl 0 rfl) ?_
                refine lv_if_ne (tgt := 22) hx hb dX11_brings_16 (by decide) (fun c_1289 => ?_) (fun c_1289 => ?_)
                · refine lv_aload_n hx hb dX11_brings_22 rfl (lv_at hl 2 rfl) ?_
                  refine q_get C h k1 fl_X11_9 (v := .ref (M 1)) rfl dX11_brings_23 ?_
                  refine lv_aload_n hx hb dX11_brings_26 rfl (lv_at hl 2 rfl) ?_
                  refine q_get C h k1 fl_X11_79 (v := .int (nI n)) rfl dX11_brings_27 ?_
                  refine lv_iload_n hx hb dX11_brings_30 rfl (lv_at hl 0 rfl) ?_
                  refine lv_i2b (v := ((p0 >>> (0 &&& 31)) &&& 255).toInt8.toInt32) hx hb dX11_brings_31 rfl ?_
                  refine q_bast C h k2 (vp_in_nI (by omega) (by decide)) dX11_brings_32 (fun H locs h => ?_)
                  generalize ef_1291 : hu f (M 1) (.inl (G 0, 200, .inl (upd w0 (Int32.toNatClampNeg (nI n)) (vp_nar .byte (((p0 >>> (0 &&& 31)) &&& 255).toInt8.toInt32))))) = f_1291 at h
                  have k_1292 : f_1291 (M 0) = some (.inr (12, [.int 0, .ref (M 1), .int (nI n), .int 0, .int 0, .ref (M 2), .ref (M 3), .ref (M 4), .ref (M 5), .ref (M 6), .int 0, .int 0, .ref (M 7), .ref (M 8), .int 0, .ref (M 9), .ref (M 10), .ref (M 11), .long 0, .ref (M 12), .ref (M 13), .ref (M 14), .ref (M 15), .ref (M 16), .ref (M 17), .ref (M 18), .ref (M 19), .int 0, .int 0, .ref (M 20), .ref (M 21), .int 0])) := by rw [← ef_1291]; exact hu_at k1 (hne (1, 200) (4, 12) k2 k1 rfl rfl (by decide))
                  have k_1293 : f_1291 (M 1) = some (.inl (G 0, 200, .inl (upd w0 (Int32.toNatClampNeg (nI n)) (vp_nar .byte (((p0 >>> (0 &&& 31)) &&& 255).toInt8.toInt32))))) := by rw [← ef_1291]; exact hu_self _ _ _
                  refine lv_aload_n hx hb dX11_brings_33 rfl (lv_at hl 2 rfl) ?_
                  refine lv_dup hx hb dX11_brings_34 rfl ?_
                  refine q_get C h k_1292 fl_X11_79 (v := .int (nI n)) rfl dX11_brings_35 ?_
                  refine lv_iconst (v := 1) hx hb dX11_brings_38 (by decide) ?_
                  refine lv_iadd hx hb dX11_brings_39 ?_
                  refine lv_topi (fun x_ e_ => ?_)
                  obtain rfl : nI (n + 1) = x_ := by rw [e_]; exact (nI_add (n) (1)).symm
                  refine q_put C h k_1292 flw_X11_79 (Or.inr ⟨_, _, _, rfl, rfl⟩) (v := .int (nI (n + 1))) rfl rfl (Nat.le_of_ble_eq_true rfl) dX11_brings_40 (fun H locs h => ?_)
                  have h : hw D b0 s.heap (hu f_1291 (M 0) (.inr (12, [.int 0, .ref (M 1), .int (nI (n + 1)), .int 0, .int 0, .ref (M 2), .ref (M 3), .ref (M 4), .ref (M 5), .ref (M 6), .int 0, .int 0, .ref (M 7), .ref (M 8), .int 0, .ref (M 9), .ref (M 10), .ref (M 11), .long 0, .ref (M 12), .ref (M 13), .ref (M 14), .ref (M 15), .ref (M 16), .ref (M 17), .ref (M 18), .ref (M 19), .int 0, .int 0, .ref (M 20), .ref (M 21), .int 0]))) H locs := h
                  generalize ef_1294 : hu f_1291 (M 0) (.inr (12, [.int 0, .ref (M 1), .int (nI (n + 1)), .int 0, .int 0, .ref (M 2), .ref (M 3), .ref (M 4), .ref (M 5), .ref (M 6), .int 0, .int 0, .ref (M 7), .ref (M 8), .int 0, .ref (M 9), .ref (M 10), .ref (M 11), .long 0, .ref (M 12), .ref (M 13), .ref (M 14), .ref (M 15), .ref (M 16), .ref (M 17), .ref (M 18), .ref (M 19), .int 0, .int 0, .ref (M 20), .ref (M 21), .int 0])) = f_1294 at h
                  have k_1295 : f_1294 (M 1) = some (.inl (G 0, 200, .inl (upd w0 (Int32.toNatClampNeg (nI n)) (vp_nar .byte (((p0 >>> (0 &&& 31)) &&& 255).toInt8.toInt32))))) := by rw [← ef_1294]; exact hu_at k_1293 (hne (4, 12) (1, 200) k_1292 k_1293 rfl rfl (by decide))
                  have k_1296 : f_1294 (M 0) = some (.inr (12, [.int 0, .ref (M 1), .int (nI (n + 1)), .int 0, .int 0, .ref (M 2), .ref (M 3), .ref (M 4), .ref (M 5), .ref (M 6), .int 0, .int 0, .ref (M 7), .ref (M 8), .int 0, .ref (M 9), .ref (M 10), .ref (M 11), .long 0, .ref (M 12), .ref (M 13), .ref (M 14), .ref (M 15), .ref (M 16), .ref (M 17), .ref (M 18), .ref (M 19), .int 0, .int 0, .ref (M 20), .ref (M 21), .int 0])) := by rw [← ef_1294]; exact hu_self _ _ _
                  refine lv_iinc (v := -8) (lv' := [(2, .int (-8)), (3, .int ((p0 >>> (0 &&& 31)) &&& 255)), (0, .ref (M 0)), (1, .int p0)]) hx hb dX11_brings_43 hl (k := 1) rfl (by decide) (by decide) rfl (fun ls hl => ?_)
                  refine lv_goto (tgt := 3) hx hb dX11_brings_46 (by decide) ?_
                  refine lv_iload_n hx hb dX11_brings_3 rfl (lv_at hl 0 rfl) ?_
                  refine lv_if_lt (tgt := 49) hx hb dX11_brings_4 (by decide) (fun c_1297 => ?_) (fun c_1297 => ?_)
                  · exact q_vret C h hr (⟨by rw [show n + nzM p0 = n + 1 from (by unfold nzM nz1 sbt; rw [if_pos c_1149, if_pos c_1229, if_pos c_1269, if_neg c_1289]; try omega)]; exact k_1296, ⟨_, k_1295⟩⟩) (Nat.le_of_ble_eq_true rfl) (Nat.le_of_ble_eq_true rfl) dX11_brings_49
                  · exact absurd c_1297 (by decide)
                · refine lv_goto (tgt := 43) hx hb dX11_brings_19 (by decide) ?_
                  refine lv_iinc (v := -8) (lv' := [(2, .int (-8)), (3, .int ((p0 >>> (0 &&& 31)) &&& 255)), (0, .ref (M 0)), (1, .int p0)]) hx hb dX11_brings_43 hl (k := 1) rfl (by decide) (by decide) rfl (fun ls hl => ?_)
                  refine lv_goto (tgt := 3) hx hb dX11_brings_46 (by decide) ?_
                  refine lv_iload_n hx hb dX11_brings_3 rfl (lv_at hl 0 rfl) ?_
                  refine lv_if_lt (tgt := 49) hx hb dX11_brings_4 (by decide) (fun c_1298 => ?_) (fun c_1298 => ?_)
                  · exact q_vret C h hr (⟨by rw [show n + nzM p0 = n from (by unfold nzM nz1 sbt; rw [if_pos c_1149, if_pos c_1229, if_pos c_1269, if_pos c_1289]; try omega)]; exact k1, ⟨_, k2⟩⟩) (Nat.le_of_ble_eq_true rfl) (Nat.le_of_ble_eq_true rfl) dX11_brings_49
                  · exact absurd c_1298 (by decide)
set_option maxRecDepth 100000 in
set_option maxHeartbeats 4000000 in
theorem c_X11_feed (l : Launch) (D : va_G) (G : Nat → Nat) (b0 : Nat) (f : hM) (M : Nat → Nat) (hM : mw G f M) (p0 : Int32) (p1 : Int32) (p2 : Int32) (p3 : Int32) (p4 : Int32) : mI l yX11_feed cX11_feed 6 (.int) { frames := 1, cells := 0, slots := 0, locals := 23 } D G b0 f [.ref (M 0), .int p0, .int p1, .int p2, .int p3, .int p4] (fun r f1 => (Vfeed p0 p1 p2 p3 p4 : Int32) = r) := by
  refine met_of (own := RX11) (by decide) rfl (Nat.le_of_ble_eq_true rfl) ?_
  intro p e s m below meth c ls C hr hini hl h
  have hl : lv_has ls 6 [(0, .ref (M 0)), (1, .int p0), (2, .int p1), (3, .int p2), (4, .int p3), (5, .int p4)] := hl
  obtain ⟨hx, hb, hml, hown, hts, hE0, hlk⟩ := id C
  obtain ⟨km0, km1, km2, km3, km4, km5⟩ := hM
  refine lv_aload_n hx hb dX11_feed_0 rfl (lv_at hl 0 rfl) ?_
  refine lv_iconst (v := 0) hx hb dX11_feed_1 (by decide) ?_
  refine q_put C h km0 flw_X11_75 (Or.inr ⟨_, _, _, rfl, rfl⟩) (v := .int 0) rfl rfl (Nat.le_of_ble_eq_true rfl) dX11_feed_2 (fun H locs h => ?_)
  have h : hw D b0 s.heap (hu f (M 0) (.inr (12, [.int 0, .ref (M 1), .int 0, .int 0, .int 0, .ref (M 2), .ref (M 3), .ref (M 4), .ref (M 5), .ref (M 6), .int 0, .int 0, .ref (M 7), .ref (M 8), .int 0, .ref (M 9), .ref (M 10), .ref (M 11), .long 0, .ref (M 12), .ref (M 13), .ref (M 14), .ref (M 15), .ref (M 16), .ref (M 17), .ref (M 18), .ref (M 19), .int 0, .int 0, .ref (M 20), .ref (M 21), .int 0]))) H locs := h
  rw [hu_id km0] at h
  refine lv_aload_n hx hb dX11_feed_5 rfl (lv_at hl 0 rfl) ?_
  refine q_get C h km0 fl_X11_79 (v := .int 0) rfl dX11_feed_6 ?_
  refine lv_iload_n hx hb dX11_feed_9 rfl (lv_at hl 1 rfl) ?_
  refine k_i (r_S C h hl (As := [.int p0]) (rest := [.int 0]) (c_X11_bytesOf l D G b0 f  p0) mk_X11_bytesOf w_1538 w_1539 w_1540 ⟨Nat.le_of_ble_eq_true rfl, Nat.le_of_ble_eq_true rfl⟩ rfl (Nat.le_of_ble_eq_true rfl) ⟨Nat.le_of_ble_eq_true rfl, Nat.le_of_ble_eq_true rfl⟩ rfl dX11_feed_10) h (fun r_1299 f_1300 H locs p_1301 h => ?_)
  obtain ⟨e_, rfl⟩ := p_1301
  subst e_
  refine lv_iadd hx hb dX11_feed_13 ?_
  refine lv_topi (fun x_ e_ => ?_)
  obtain rfl : nI (0 + (nzM p0)) = x_ := by rw [e_]; exact (nI_add (0) (nzM p0)).symm
  refine lv_iload_n hx hb dX11_feed_14 rfl (lv_at hl 2 rfl) ?_
  refine k_i (r_S C h hl (As := [.int p1]) (rest := [.int (nI (0 + (nzM p0)))]) (c_X11_bytesOf l D G b0 f  p1) mk_X11_bytesOf w_1538 w_1539 w_1540 ⟨Nat.le_of_ble_eq_true rfl, Nat.le_of_ble_eq_true rfl⟩ rfl (Nat.le_of_ble_eq_true rfl) ⟨Nat.le_of_ble_eq_true rfl, Nat.le_of_ble_eq_true rfl⟩ rfl dX11_feed_15) h (fun r_1302 f_1303 H locs p_1304 h => ?_)
  obtain ⟨e_, rfl⟩ := p_1304
  subst e_
  refine lv_iadd hx hb dX11_feed_18 ?_
  refine lv_topi (fun x_ e_ => ?_)
  obtain rfl : nI (0 + (nzM p0) + (nzM p1)) = x_ := by rw [e_]; exact (nI_add (0 + (nzM p0)) (nzM p1)).symm
  refine lv_iload_n hx hb dX11_feed_19 rfl (lv_at hl 3 rfl) ?_
  refine k_i (r_S C h hl (As := [.int p2]) (rest := [.int (nI (0 + (nzM p0) + (nzM p1)))]) (c_X11_bytesOf l D G b0 f  p2) mk_X11_bytesOf w_1538 w_1539 w_1540 ⟨Nat.le_of_ble_eq_true rfl, Nat.le_of_ble_eq_true rfl⟩ rfl (Nat.le_of_ble_eq_true rfl) ⟨Nat.le_of_ble_eq_true rfl, Nat.le_of_ble_eq_true rfl⟩ rfl dX11_feed_20) h (fun r_1305 f_1306 H locs p_1307 h => ?_)
  obtain ⟨e_, rfl⟩ := p_1307
  subst e_
  refine lv_iadd hx hb dX11_feed_23 ?_
  refine lv_topi (fun x_ e_ => ?_)
  obtain rfl : nI (0 + (nzM p0) + (nzM p1) + (nzM p2)) = x_ := by rw [e_]; exact (nI_add (0 + (nzM p0) + (nzM p1)) (nzM p2)).symm
  refine lv_iload hx hb dX11_feed_24 (lv_at hl 4 rfl) ?_
  refine k_i (r_S C h hl (As := [.int p3]) (rest := [.int (nI (0 + (nzM p0) + (nzM p1) + (nzM p2)))]) (c_X11_bytesOf l D G b0 f  p3) mk_X11_bytesOf w_1538 w_1539 w_1540 ⟨Nat.le_of_ble_eq_true rfl, Nat.le_of_ble_eq_true rfl⟩ rfl (Nat.le_of_ble_eq_true rfl) ⟨Nat.le_of_ble_eq_true rfl, Nat.le_of_ble_eq_true rfl⟩ rfl dX11_feed_26) h (fun r_1308 f_1309 H locs p_1310 h => ?_)
  obtain ⟨e_, rfl⟩ := p_1310
  subst e_
  refine lv_iadd hx hb dX11_feed_29 ?_
  refine lv_topi (fun x_ e_ => ?_)
  obtain rfl : nI (0 + (nzM p0) + (nzM p1) + (nzM p2) + (nzM p3)) = x_ := by rw [e_]; exact (nI_add (0 + (nzM p0) + (nzM p1) + (nzM p2)) (nzM p3)).symm
  refine lv_iload hx hb dX11_feed_30 (lv_at hl 5 rfl) ?_
  refine k_i (r_S C h hl (As := [.int p4]) (rest := [.int (nI (0 + (nzM p0) + (nzM p1) + (nzM p2) + (nzM p3)))]) (c_X11_bytesOf l D G b0 f  p4) mk_X11_bytesOf w_1538 w_1539 w_1540 ⟨Nat.le_of_ble_eq_true rfl, Nat.le_of_ble_eq_true rfl⟩ rfl (Nat.le_of_ble_eq_true rfl) ⟨Nat.le_of_ble_eq_true rfl, Nat.le_of_ble_eq_true rfl⟩ rfl dX11_feed_32) h (fun r_1311 f_1312 H locs p_1313 h => ?_)
  obtain ⟨e_, rfl⟩ := p_1313
  subst e_
  refine lv_iadd hx hb dX11_feed_35 ?_
  refine lv_topi (fun x_ e_ => ?_)
  obtain rfl : nI (0 + (nzM p0) + (nzM p1) + (nzM p2) + (nzM p3) + (nzM p4)) = x_ := by rw [e_]; exact (nI_add (0 + (nzM p0) + (nzM p1) + (nzM p2) + (nzM p3)) (nzM p4)).symm
  refine lv_sipush (v := 200) hx hb dX11_feed_36 (by decide) ?_
  refine lv_icmp_le (tgt := 44) hx hb dX11_feed_39 (by decide) (fun c_1314 => ?_) (fun c_1314 => ?_)
  · refine lv_aload_n hx hb dX11_feed_44 rfl (lv_at hl 0 rfl) ?_
    refine lv_iload_n hx hb dX11_feed_45 rfl (lv_at hl 1 rfl) ?_
    refine k_v (r_V C h hl (As := [.int p0]) (rest := []) (c_X11_brings l D G b0 f M (0) (by have := nzM_le p0; have := nzM_le p1; have := nzM_le p2; have := nzM_le p3; have := nzM_le p4; omega) (fun _ => 0) km0 km1 p0) km0 (Cn := RX11) (T := TX11) (N := 32) rfl rfl mk_X11_brings w_1541 w_1543 w_37 w_1544 ⟨Nat.le_of_ble_eq_true rfl, Nat.le_of_ble_eq_true rfl⟩ rfl (Nat.le_of_ble_eq_true rfl) ⟨Nat.le_of_ble_eq_true rfl, Nat.le_of_ble_eq_true rfl⟩ rfl dX11_feed_46) h (fun f_1316 H locs p_1317 h => ?_)
    obtain ⟨k_1319, w_1318, k_1320⟩ := p_1317
    refine lv_aload_n hx hb dX11_feed_49 rfl (lv_at hl 0 rfl) ?_
    refine lv_iload_n hx hb dX11_feed_50 rfl (lv_at hl 2 rfl) ?_
    refine k_v (r_V C h hl (As := [.int p1]) (rest := []) (c_X11_brings l D G b0 f_1316 M (0 + nzM p0) (by have := nzM_le p0; have := nzM_le p1; have := nzM_le p2; have := nzM_le p3; have := nzM_le p4; omega) w_1318 k_1319 k_1320 p1) k_1319 (Cn := RX11) (T := TX11) (N := 32) rfl rfl mk_X11_brings w_1541 w_1543 w_37 w_1544 ⟨Nat.le_of_ble_eq_true rfl, Nat.le_of_ble_eq_true rfl⟩ rfl (Nat.le_of_ble_eq_true rfl) ⟨Nat.le_of_ble_eq_true rfl, Nat.le_of_ble_eq_true rfl⟩ rfl dX11_feed_51) h (fun f_1322 H locs p_1323 h => ?_)
    obtain ⟨k_1325, w_1324, k_1326⟩ := p_1323
    refine lv_aload_n hx hb dX11_feed_54 rfl (lv_at hl 0 rfl) ?_
    refine lv_iload_n hx hb dX11_feed_55 rfl (lv_at hl 3 rfl) ?_
    refine k_v (r_V C h hl (As := [.int p2]) (rest := []) (c_X11_brings l D G b0 f_1322 M (0 + nzM p0 + nzM p1) (by have := nzM_le p0; have := nzM_le p1; have := nzM_le p2; have := nzM_le p3; have := nzM_le p4; omega) w_1324 k_1325 k_1326 p2) k_1325 (Cn := RX11) (T := TX11) (N := 32) rfl rfl mk_X11_brings w_1541 w_1543 w_37 w_1544 ⟨Nat.le_of_ble_eq_true rfl, Nat.le_of_ble_eq_true rfl⟩ rfl (Nat.le_of_ble_eq_true rfl) ⟨Nat.le_of_ble_eq_true rfl, Nat.le_of_ble_eq_true rfl⟩ rfl dX11_feed_56) h (fun f_1328 H locs p_1329 h => ?_)
    obtain ⟨k_1331, w_1330, k_1332⟩ := p_1329
    refine lv_aload_n hx hb dX11_feed_59 rfl (lv_at hl 0 rfl) ?_
    refine lv_iload hx hb dX11_feed_60 (lv_at hl 4 rfl) ?_
    refine k_v (r_V C h hl (As := [.int p3]) (rest := []) (c_X11_brings l D G b0 f_1328 M (0 + nzM p0 + nzM p1 + nzM p2) (by have := nzM_le p0; have := nzM_le p1; have := nzM_le p2; have := nzM_le p3; have := nzM_le p4; omega) w_1330 k_1331 k_1332 p3) k_1331 (Cn := RX11) (T := TX11) (N := 32) rfl rfl mk_X11_brings w_1541 w_1543 w_37 w_1544 ⟨Nat.le_of_ble_eq_true rfl, Nat.le_of_ble_eq_true rfl⟩ rfl (Nat.le_of_ble_eq_true rfl) ⟨Nat.le_of_ble_eq_true rfl, Nat.le_of_ble_eq_true rfl⟩ rfl dX11_feed_62) h (fun f_1334 H locs p_1335 h => ?_)
    obtain ⟨k_1337, w_1336, k_1338⟩ := p_1335
    refine lv_aload_n hx hb dX11_feed_65 rfl (lv_at hl 0 rfl) ?_
    refine lv_iload hx hb dX11_feed_66 (lv_at hl 5 rfl) ?_
    refine k_v (r_V C h hl (As := [.int p4]) (rest := []) (c_X11_brings l D G b0 f_1334 M (0 + nzM p0 + nzM p1 + nzM p2 + nzM p3) (by have := nzM_le p0; have := nzM_le p1; have := nzM_le p2; have := nzM_le p3; have := nzM_le p4; omega) w_1336 k_1337 k_1338 p4) k_1337 (Cn := RX11) (T := TX11) (N := 32) rfl rfl mk_X11_brings w_1541 w_1543 w_37 w_1544 ⟨Nat.le_of_ble_eq_true rfl, Nat.le_of_ble_eq_true rfl⟩ rfl (Nat.le_of_ble_eq_true rfl) ⟨Nat.le_of_ble_eq_true rfl, Nat.le_of_ble_eq_true rfl⟩ rfl dX11_feed_68) h (fun f_1340 H locs p_1341 h => ?_)
    obtain ⟨k_1343, w_1342, k_1344⟩ := p_1341
    refine lv_aload_n hx hb dX11_feed_71 rfl (lv_at hl 0 rfl) ?_
    refine q_get C h k_1343 fl_X11_79 (v := .int (nI (0 + nzM p0 + nzM p1 + nzM p2 + nzM p3 + nzM p4))) rfl dX11_feed_72 ?_
    exact q_iret C h hr (Vfeed_m _ _ _ _ _) (Nat.le_of_ble_eq_true rfl) (Nat.le_of_ble_eq_true rfl) dX11_feed_75
  · exact absurd (le200 (by have := nzM_le p0; have := nzM_le p1; have := nzM_le p2; have := nzM_le p3; have := nzM_le p4; omega)) c_1314
