theorem dX11_bytesOf_0 : decode cX11_bytesOf 0 = .ok (.iconst 0, 1) := by decide +kernel
theorem dX11_bytesOf_1 : decode cX11_bytesOf 1 = .ok (.istore_n 1, 1) := by decide +kernel
theorem dX11_bytesOf_2 : decode cX11_bytesOf 2 = .ok (.iconst 0, 1) := by decide +kernel
theorem dX11_bytesOf_3 : decode cX11_bytesOf 3 = .ok (.istore_n 2, 1) := by decide +kernel
theorem dX11_bytesOf_4 : decode cX11_bytesOf 4 = .ok (.iload_n 2, 1) := by decide +kernel
theorem dX11_bytesOf_5 : decode cX11_bytesOf 5 = .ok (.iconst 4, 1) := by decide +kernel
theorem dX11_bytesOf_6 : decode cX11_bytesOf 6 = .ok (.if_icmp .ge 30, 3) := by decide +kernel
theorem dX11_bytesOf_9 : decode cX11_bytesOf 9 = .ok (.iload_n 1, 1) := by decide +kernel
theorem dX11_bytesOf_10 : decode cX11_bytesOf 10 = .ok (.iload_n 0, 1) := by decide +kernel
theorem dX11_bytesOf_11 : decode cX11_bytesOf 11 = .ok (.bipush 8, 2) := by decide +kernel
theorem dX11_bytesOf_13 : decode cX11_bytesOf 13 = .ok (.iload_n 2, 1) := by decide +kernel
theorem dX11_bytesOf_14 : decode cX11_bytesOf 14 = .ok (.imul, 1) := by decide +kernel
theorem dX11_bytesOf_15 : decode cX11_bytesOf 15 = .ok (.ishr, 1) := by decide +kernel
theorem dX11_bytesOf_16 : decode cX11_bytesOf 16 = .ok (.sipush 255, 3) := by decide +kernel
theorem dX11_bytesOf_19 : decode cX11_bytesOf 19 = .ok (.iand, 1) := by decide +kernel
theorem dX11_bytesOf_20 : decode cX11_bytesOf 20 = .ok (.ifCond .ne 7, 3) := by decide +kernel
theorem dX11_bytesOf_27 : decode cX11_bytesOf 27 = .ok (.iconst 1, 1) := by decide +kernel
theorem dX11_bytesOf_28 : decode cX11_bytesOf 28 = .ok (.iadd, 1) := by decide +kernel
theorem dX11_bytesOf_29 : decode cX11_bytesOf 29 = .ok (.istore_n 1, 1) := by decide +kernel
theorem dX11_bytesOf_30 : decode cX11_bytesOf 30 = .ok (.iinc 2 1, 3) := by decide +kernel
theorem dX11_bytesOf_33 : decode cX11_bytesOf 33 = .ok (.goto (-29), 3) := by decide +kernel
theorem dX11_bytesOf_36 : decode cX11_bytesOf 36 = .ok (.iload_n 1, 1) := by decide +kernel
theorem dX11_bytesOf_23 : decode cX11_bytesOf 23 = .ok (.iconst 0, 1) := by decide +kernel
theorem dX11_bytesOf_24 : decode cX11_bytesOf 24 = .ok (.goto 4, 3) := by decide +kernel
theorem dX11_bytesOf_37 : decode cX11_bytesOf 37 = .ok (.ireturn, 1) := by decide +kernel
theorem dX7_filled_0 : decode cX7_filled 0 = .ok (.iconst 0, 1) := by decide +kernel
theorem dX7_filled_1 : decode cX7_filled 1 = .ok (.istore_n 1, 1) := by decide +kernel
theorem dX7_filled_2 : decode cX7_filled 2 = .ok (.bipush 24, 2) := by decide +kernel
theorem dX7_filled_4 : decode cX7_filled 4 = .ok (.istore_n 2, 1) := by decide +kernel
theorem dX7_filled_5 : decode cX7_filled 5 = .ok (.iload_n 2, 1) := by decide +kernel
theorem dX7_filled_6 : decode cX7_filled 6 = .ok (.ifCond .lt 22, 3) := by decide +kernel
theorem dX7_filled_9 : decode cX7_filled 9 = .ok (.iload_n 0, 1) := by decide +kernel
theorem dX7_filled_10 : decode cX7_filled 10 = .ok (.iload_n 2, 1) := by decide +kernel
theorem dX7_filled_11 : decode cX7_filled 11 = .ok (.iushr, 1) := by decide +kernel
theorem dX7_filled_12 : decode cX7_filled 12 = .ok (.sipush 255, 3) := by decide +kernel
theorem dX7_filled_15 : decode cX7_filled 15 = .ok (.iand, 1) := by decide +kernel
theorem dX7_filled_16 : decode cX7_filled 16 = .ok (.ifCond .eq 6, 3) := by decide +kernel
theorem dX7_filled_22 : decode cX7_filled 22 = .ok (.iinc 2 (-8), 3) := by decide +kernel
theorem dX7_filled_25 : decode cX7_filled 25 = .ok (.goto (-20), 3) := by decide +kernel
theorem dX7_filled_28 : decode cX7_filled 28 = .ok (.iload_n 1, 1) := by decide +kernel
theorem dX7_filled_19 : decode cX7_filled 19 = .ok (.iinc 1 1, 3) := by decide +kernel
theorem dX7_filled_29 : decode cX7_filled 29 = .ok (.ireturn, 1) := by decide +kernel
theorem dX11_brings_0 : decode cX11_brings 0 = .ok (.bipush 24, 2) := by decide +kernel
theorem dX11_brings_2 : decode cX11_brings 2 = .ok (.istore_n 2, 1) := by decide +kernel
theorem dX11_brings_3 : decode cX11_brings 3 = .ok (.iload_n 2, 1) := by decide +kernel
theorem dX11_brings_4 : decode cX11_brings 4 = .ok (.ifCond .lt 45, 3) := by decide +kernel
theorem dX11_brings_7 : decode cX11_brings 7 = .ok (.iload_n 1, 1) := by decide +kernel
theorem dX11_brings_8 : decode cX11_brings 8 = .ok (.iload_n 2, 1) := by decide +kernel
theorem dX11_brings_9 : decode cX11_brings 9 = .ok (.ishr, 1) := by decide +kernel
theorem dX11_brings_10 : decode cX11_brings 10 = .ok (.sipush 255, 3) := by decide +kernel
theorem dX11_brings_13 : decode cX11_brings 13 = .ok (.iand, 1) := by decide +kernel
theorem dX11_brings_14 : decode cX11_brings 14 = .ok (.istore_n 3, 1) := by decide +kernel
theorem dX11_brings_15 : decode cX11_brings 15 = .ok (.iload_n 3, 1) := by decide +kernel
theorem dX11_brings_16 : decode cX11_brings 16 = .ok (.ifCond .ne 6, 3) := by decide +kernel
theorem dX11_brings_22 : decode cX11_brings 22 = .ok (.aload_n 0, 1) := by decide +kernel
theorem dX11_brings_23 : decode cX11_brings 23 = .ok (.getfield 9, 3) := by decide +kernel
theorem w_1434 : Cond.fieldLink "QuarterWalksModel" 9 "QuarterWalksModel" "tape" "[B" ∈ wAll := wI6 139 (by decide +kernel) (by decide +kernel)
theorem fl_X11_9 : fl RX11 9 12 1 := ⟨RX11, TX11, 32, rfl, inA_X11, by decide, w_1434⟩
theorem dX11_brings_26 : decode cX11_brings 26 = .ok (.aload_n 0, 1) := by decide +kernel
theorem dX11_brings_27 : decode cX11_brings 27 = .ok (.getfield 79, 3) := by decide +kernel
theorem dX11_brings_30 : decode cX11_brings 30 = .ok (.iload_n 3, 1) := by decide +kernel
theorem dX11_brings_31 : decode cX11_brings 31 = .ok (.i2b, 1) := by decide +kernel
theorem dX11_brings_32 : decode cX11_brings 32 = .ok (.bastore, 1) := by decide +kernel
theorem dX11_brings_33 : decode cX11_brings 33 = .ok (.aload_n 0, 1) := by decide +kernel
theorem dX11_brings_34 : decode cX11_brings 34 = .ok (.dup, 1) := by decide +kernel
theorem dX11_brings_35 : decode cX11_brings 35 = .ok (.getfield 79, 3) := by decide +kernel
theorem dX11_brings_38 : decode cX11_brings 38 = .ok (.iconst 1, 1) := by decide +kernel
theorem dX11_brings_39 : decode cX11_brings 39 = .ok (.iadd, 1) := by decide +kernel
theorem dX11_brings_40 : decode cX11_brings 40 = .ok (.putfield 79, 3) := by decide +kernel
theorem dX11_brings_43 : decode cX11_brings 43 = .ok (.iinc 2 (-8), 3) := by decide +kernel
theorem dX11_brings_46 : decode cX11_brings 46 = .ok (.goto (-43), 3) := by decide +kernel
theorem dX11_brings_19 : decode cX11_brings 19 = .ok (.goto 24, 3) := by decide +kernel
theorem dX11_brings_49 : decode cX11_brings 49 = .ok (.return_, 1) := by decide +kernel
theorem dX7_append_0 : decode cX7_append 0 = .ok (.bipush 24, 2) := by decide +kernel
theorem dX7_append_2 : decode cX7_append 2 = .ok (.istore_n 2, 1) := by decide +kernel
theorem dX7_append_3 : decode cX7_append 3 = .ok (.iload_n 2, 1) := by decide +kernel
theorem dX7_append_4 : decode cX7_append 4 = .ok (.ifCond .lt 51, 3) := by decide +kernel
theorem dX7_append_7 : decode cX7_append 7 = .ok (.iload_n 1, 1) := by decide +kernel
theorem dX7_append_8 : decode cX7_append 8 = .ok (.iload_n 2, 1) := by decide +kernel
theorem dX7_append_9 : decode cX7_append 9 = .ok (.iushr, 1) := by decide +kernel
theorem dX7_append_10 : decode cX7_append 10 = .ok (.sipush 255, 3) := by decide +kernel
theorem dX7_append_13 : decode cX7_append 13 = .ok (.iand, 1) := by decide +kernel
theorem dX7_append_14 : decode cX7_append 14 = .ok (.istore_n 3, 1) := by decide +kernel
theorem dX7_append_15 : decode cX7_append 15 = .ok (.iload_n 3, 1) := by decide +kernel
theorem dX7_append_16 : decode cX7_append 16 = .ok (.ifCond .eq 33, 3) := by decide +kernel
theorem dX7_append_49 : decode cX7_append 49 = .ok (.iinc 2 (-8), 3) := by decide +kernel
theorem dX7_append_52 : decode cX7_append 52 = .ok (.goto (-49), 3) := by decide +kernel
theorem dX7_append_19 : decode cX7_append 19 = .ok (.aload_n 0, 1) := by decide +kernel
theorem dX7_append_20 : decode cX7_append 20 = .ok (.getfield 18, 3) := by decide +kernel
theorem w_139 : Cond.fieldLink "QuarterWalks$Tape" 18 "QuarterWalks$Tape" "length" "I" ∈ wAll := wI1 44 (by decide +kernel) (by decide +kernel)
theorem fl_X7_18 : fl RX7 18 8 0 := ⟨RX7, TX7, 7, rfl, inA_X7, by decide, w_139⟩
theorem dX7_append_23 : decode cX7_append 23 = .ok (.sipush 200, 3) := by decide +kernel
theorem dX7_append_26 : decode cX7_append 26 = .ok (.if_icmp .ge 23, 3) := by decide +kernel
theorem dX7_append_29 : decode cX7_append 29 = .ok (.aload_n 0, 1) := by decide +kernel
theorem dX7_append_30 : decode cX7_append 30 = .ok (.getfield 11, 3) := by decide +kernel
theorem w_140 : Cond.fieldLink "QuarterWalks$Tape" 11 "QuarterWalks$Tape" "bytes" "[I" ∈ wAll := wI1 45 (by decide +kernel) (by decide +kernel)
theorem fl_X7_11 : fl RX7 11 8 1 := ⟨RX7, TX7, 7, rfl, inA_X7, by decide, w_140⟩
theorem dX7_append_33 : decode cX7_append 33 = .ok (.aload_n 0, 1) := by decide +kernel
theorem dX7_append_34 : decode cX7_append 34 = .ok (.getfield 18, 3) := by decide +kernel
theorem dX7_append_37 : decode cX7_append 37 = .ok (.iload_n 3, 1) := by decide +kernel
theorem dX7_append_38 : decode cX7_append 38 = .ok (.iastore, 1) := by decide +kernel
theorem dX7_append_39 : decode cX7_append 39 = .ok (.aload_n 0, 1) := by decide +kernel
theorem dX7_append_40 : decode cX7_append 40 = .ok (.dup, 1) := by decide +kernel
theorem dX7_append_41 : decode cX7_append 41 = .ok (.getfield 18, 3) := by decide +kernel
theorem dX7_append_44 : decode cX7_append 44 = .ok (.iconst 1, 1) := by decide +kernel
theorem dX7_append_45 : decode cX7_append 45 = .ok (.iadd, 1) := by decide +kernel
theorem dX7_append_46 : decode cX7_append 46 = .ok (.putfield 18, 3) := by decide +kernel
theorem flw_X7_18 : flw RX7 18 8 0 (.int) := ⟨RX7, TX7, 7, tyX7, rfl, inA_X7, by decide, w_139, tyX7_ok, nmX7, by decide +kernel, Or.inl rfl⟩
theorem dX7_append_55 : decode cX7_append 55 = .ok (.return_, 1) := by decide +kernel
theorem dX11_feed_0 : decode cX11_feed 0 = .ok (.aload_n 0, 1) := by decide +kernel
theorem dX11_feed_1 : decode cX11_feed 1 = .ok (.iconst 0, 1) := by decide +kernel
theorem dX11_feed_2 : decode cX11_feed 2 = .ok (.putfield 75, 3) := by decide +kernel
theorem dX11_feed_5 : decode cX11_feed 5 = .ok (.aload_n 0, 1) := by decide +kernel
theorem dX11_feed_6 : decode cX11_feed 6 = .ok (.getfield 79, 3) := by decide +kernel
theorem dX11_feed_9 : decode cX11_feed 9 = .ok (.iload_n 1, 1) := by decide +kernel
theorem dX11_feed_10 : decode cX11_feed 10 = .ok (.invokestatic 82, 3) := by decide +kernel
theorem w_1534 : Cond.methodLink "QuarterWalksModel" 82 yX11_bytesOf ∈ wAll := wI6 239 (by decide +kernel) (by decide +kernel)
theorem mk_X11_bytesOf : mk yX11_bytesOf 1 := ⟨by decide +kernel, w_110⟩
theorem w_1535 : Cond.static yX11_bytesOf ∈ wAll := wI7 0 (by decide +kernel) (by decide +kernel)
theorem w_1536 : Cond.code yX11_bytesOf cX11_bytesOf 3 (some .int) ∈ wAll := wI7 1 (by decide +kernel) (by decide +kernel)
theorem dX11_feed_13 : decode cX11_feed 13 = .ok (.iadd, 1) := by decide +kernel
theorem dX11_feed_14 : decode cX11_feed 14 = .ok (.iload_n 2, 1) := by decide +kernel
theorem dX11_feed_15 : decode cX11_feed 15 = .ok (.invokestatic 82, 3) := by decide +kernel
theorem dX11_feed_18 : decode cX11_feed 18 = .ok (.iadd, 1) := by decide +kernel
theorem dX11_feed_19 : decode cX11_feed 19 = .ok (.iload_n 3, 1) := by decide +kernel
theorem dX11_feed_20 : decode cX11_feed 20 = .ok (.invokestatic 82, 3) := by decide +kernel
theorem dX11_feed_23 : decode cX11_feed 23 = .ok (.iadd, 1) := by decide +kernel
theorem dX11_feed_24 : decode cX11_feed 24 = .ok (.iload 4, 2) := by decide +kernel
theorem dX11_feed_26 : decode cX11_feed 26 = .ok (.invokestatic 82, 3) := by decide +kernel
theorem dX11_feed_29 : decode cX11_feed 29 = .ok (.iadd, 1) := by decide +kernel
theorem dX11_feed_30 : decode cX11_feed 30 = .ok (.iload 5, 2) := by decide +kernel
theorem dX11_feed_32 : decode cX11_feed 32 = .ok (.invokestatic 82, 3) := by decide +kernel
theorem dX11_feed_35 : decode cX11_feed 35 = .ok (.iadd, 1) := by decide +kernel
theorem dX11_feed_36 : decode cX11_feed 36 = .ok (.sipush 200, 3) := by decide +kernel
theorem dX11_feed_39 : decode cX11_feed 39 = .ok (.if_icmp .le 5, 3) := by decide +kernel
theorem dX11_feed_44 : decode cX11_feed 44 = .ok (.aload_n 0, 1) := by decide +kernel
theorem dX11_feed_45 : decode cX11_feed 45 = .ok (.iload_n 1, 1) := by decide +kernel
theorem dX11_feed_46 : decode cX11_feed 46 = .ok (.invokevirtual 86, 3) := by decide +kernel
theorem w_1537 : Cond.methodLink "QuarterWalksModel" 86 yX11_brings ∈ wAll := wI7 2 (by decide +kernel) (by decide +kernel)
theorem w_37 : Cond.selects yX11_brings.cls yX11_brings yX11_brings ∈ wAll := wIn 37 (by decide +kernel) (by decide +kernel)
theorem mk_X11_brings : mk yX11_brings 1 := ⟨by decide +kernel, w_110⟩
theorem w_1539 : Cond.instanceMethod yX11_brings ∈ wAll := wI7 4 (by decide +kernel) (by decide +kernel)
theorem w_1540 : Cond.code yX11_brings cX11_brings 4 none ∈ wAll := wI7 5 (by decide +kernel) (by decide +kernel)
theorem dX11_feed_49 : decode cX11_feed 49 = .ok (.aload_n 0, 1) := by decide +kernel
theorem dX11_feed_50 : decode cX11_feed 50 = .ok (.iload_n 2, 1) := by decide +kernel
theorem dX11_feed_51 : decode cX11_feed 51 = .ok (.invokevirtual 86, 3) := by decide +kernel
theorem dX11_feed_54 : decode cX11_feed 54 = .ok (.aload_n 0, 1) := by decide +kernel
theorem dX11_feed_55 : decode cX11_feed 55 = .ok (.iload_n 3, 1) := by decide +kernel
theorem dX11_feed_56 : decode cX11_feed 56 = .ok (.invokevirtual 86, 3) := by decide +kernel
theorem dX11_feed_59 : decode cX11_feed 59 = .ok (.aload_n 0, 1) := by decide +kernel
theorem dX11_feed_60 : decode cX11_feed 60 = .ok (.iload 4, 2) := by decide +kernel
theorem dX11_feed_62 : decode cX11_feed 62 = .ok (.invokevirtual 86, 3) := by decide +kernel
theorem dX11_feed_65 : decode cX11_feed 65 = .ok (.aload_n 0, 1) := by decide +kernel
theorem dX11_feed_66 : decode cX11_feed 66 = .ok (.iload 5, 2) := by decide +kernel
theorem dX11_feed_68 : decode cX11_feed 68 = .ok (.invokevirtual 86, 3) := by decide +kernel
theorem dX11_feed_71 : decode cX11_feed 71 = .ok (.aload_n 0, 1) := by decide +kernel
theorem dX11_feed_72 : decode cX11_feed 72 = .ok (.getfield 79, 3) := by decide +kernel
theorem dX11_feed_42 : decode cX11_feed 42 = .ok (.iconst (-1), 1) := by decide +kernel
theorem dX11_feed_75 : decode cX11_feed 75 = .ok (.ireturn, 1) := by decide +kernel
theorem dX11_feed_43 : decode cX11_feed 43 = .ok (.ireturn, 1) := by decide +kernel
theorem dX10_feed_0 : decode cX10_feed 0 = .ok (.iload_n 1, 1) := by decide +kernel
theorem dX10_feed_1 : decode cX10_feed 1 = .ok (.invokestatic 75, 3) := by decide +kernel
theorem w_414 : Cond.methodLink "QuarterWalks" 75 yX7_filled ∈ wAll := wI2 79 (by decide +kernel) (by decide +kernel)
theorem w_97 : Cond.initialized "QuarterWalks$Tape" ∈ wAll := wI1 2 (by decide +kernel) (by decide +kernel)
theorem mk_X7_filled : mk yX7_filled 1 := ⟨by decide +kernel, w_97⟩
theorem w_415 : Cond.static yX7_filled ∈ wAll := wI2 80 (by decide +kernel) (by decide +kernel)
theorem w_416 : Cond.code yX7_filled cX7_filled 3 (some .int) ∈ wAll := wI2 81 (by decide +kernel) (by decide +kernel)
theorem dX10_feed_4 : decode cX10_feed 4 = .ok (.iload_n 2, 1) := by decide +kernel
theorem dX10_feed_5 : decode cX10_feed 5 = .ok (.invokestatic 75, 3) := by decide +kernel
theorem dX10_feed_8 : decode cX10_feed 8 = .ok (.iadd, 1) := by decide +kernel
theorem dX10_feed_9 : decode cX10_feed 9 = .ok (.iload_n 3, 1) := by decide +kernel
theorem dX10_feed_10 : decode cX10_feed 10 = .ok (.invokestatic 75, 3) := by decide +kernel
theorem dX10_feed_13 : decode cX10_feed 13 = .ok (.iadd, 1) := by decide +kernel
theorem dX10_feed_14 : decode cX10_feed 14 = .ok (.iload 4, 2) := by decide +kernel
theorem dX10_feed_16 : decode cX10_feed 16 = .ok (.invokestatic 75, 3) := by decide +kernel
theorem dX10_feed_19 : decode cX10_feed 19 = .ok (.iadd, 1) := by decide +kernel
theorem dX10_feed_20 : decode cX10_feed 20 = .ok (.iload 5, 2) := by decide +kernel
theorem dX10_feed_22 : decode cX10_feed 22 = .ok (.invokestatic 75, 3) := by decide +kernel
theorem dX10_feed_25 : decode cX10_feed 25 = .ok (.iadd, 1) := by decide +kernel
theorem dX10_feed_26 : decode cX10_feed 26 = .ok (.istore 6, 2) := by decide +kernel
theorem dX10_feed_28 : decode cX10_feed 28 = .ok (.aload_n 0, 1) := by decide +kernel
theorem dX10_feed_29 : decode cX10_feed 29 = .ok (.getfield 12, 3) := by decide +kernel
theorem dX10_feed_32 : decode cX10_feed 32 = .ok (.getfield 79, 3) := by decide +kernel
theorem dX10_feed_35 : decode cX10_feed 35 = .ok (.iload 6, 2) := by decide +kernel
theorem dX10_feed_37 : decode cX10_feed 37 = .ok (.iadd, 1) := by decide +kernel
theorem dX10_feed_38 : decode cX10_feed 38 = .ok (.sipush 200, 3) := by decide +kernel
theorem dX10_feed_41 : decode cX10_feed 41 = .ok (.if_icmp .le 5, 3) := by decide +kernel
theorem dX10_feed_46 : decode cX10_feed 46 = .ok (.aload_n 0, 1) := by decide +kernel
theorem dX10_feed_47 : decode cX10_feed 47 = .ok (.getfield 12, 3) := by decide +kernel
theorem dX10_feed_50 : decode cX10_feed 50 = .ok (.iload_n 1, 1) := by decide +kernel
theorem dX10_feed_51 : decode cX10_feed 51 = .ok (.invokevirtual 83, 3) := by decide +kernel
theorem w_417 : Cond.methodLink "QuarterWalks" 83 yX7_append ∈ wAll := wI2 82 (by decide +kernel) (by decide +kernel)
theorem w_419 : Cond.selects yX7_append.cls yX7_append yX7_append ∈ wAll := wI2 84 (by decide +kernel) (by decide +kernel)
theorem mk_X7_append : mk yX7_append 1 := ⟨by decide +kernel, w_97⟩
theorem w_418 : Cond.instanceMethod yX7_append ∈ wAll := wI2 83 (by decide +kernel) (by decide +kernel)
theorem w_420 : Cond.code yX7_append cX7_append 4 none ∈ wAll := wI2 85 (by decide +kernel) (by decide +kernel)
theorem dX10_feed_54 : decode cX10_feed 54 = .ok (.aload_n 0, 1) := by decide +kernel
theorem dX10_feed_55 : decode cX10_feed 55 = .ok (.getfield 12, 3) := by decide +kernel
theorem dX10_feed_58 : decode cX10_feed 58 = .ok (.iload_n 2, 1) := by decide +kernel
theorem dX10_feed_59 : decode cX10_feed 59 = .ok (.invokevirtual 83, 3) := by decide +kernel
theorem dX10_feed_62 : decode cX10_feed 62 = .ok (.aload_n 0, 1) := by decide +kernel
theorem dX10_feed_63 : decode cX10_feed 63 = .ok (.getfield 12, 3) := by decide +kernel
theorem dX10_feed_66 : decode cX10_feed 66 = .ok (.iload_n 3, 1) := by decide +kernel
theorem dX10_feed_67 : decode cX10_feed 67 = .ok (.invokevirtual 83, 3) := by decide +kernel
theorem dX10_feed_70 : decode cX10_feed 70 = .ok (.aload_n 0, 1) := by decide +kernel
theorem dX10_feed_71 : decode cX10_feed 71 = .ok (.getfield 12, 3) := by decide +kernel
theorem dX10_feed_74 : decode cX10_feed 74 = .ok (.iload 4, 2) := by decide +kernel
theorem dX10_feed_76 : decode cX10_feed 76 = .ok (.invokevirtual 83, 3) := by decide +kernel
theorem dX10_feed_79 : decode cX10_feed 79 = .ok (.aload_n 0, 1) := by decide +kernel
theorem dX10_feed_80 : decode cX10_feed 80 = .ok (.getfield 12, 3) := by decide +kernel
theorem dX10_feed_83 : decode cX10_feed 83 = .ok (.iload 5, 2) := by decide +kernel
theorem dX10_feed_85 : decode cX10_feed 85 = .ok (.invokevirtual 83, 3) := by decide +kernel
theorem dX10_feed_88 : decode cX10_feed 88 = .ok (.aload_n 0, 1) := by decide +kernel
theorem dX10_feed_89 : decode cX10_feed 89 = .ok (.getfield 12, 3) := by decide +kernel
theorem dX10_feed_92 : decode cX10_feed 92 = .ok (.getfield 79, 3) := by decide +kernel
theorem dX10_feed_44 : decode cX10_feed 44 = .ok (.iconst (-1), 1) := by decide +kernel
theorem dX10_feed_95 : decode cX10_feed 95 = .ok (.ireturn, 1) := by decide +kernel
theorem dX10_feed_45 : decode cX10_feed 45 = .ok (.ireturn, 1) := by decide +kernel
abbrev rm_s_X11_bytesOfX : Room := { frames := 0, cells := 0, slots := 0, locals := 0 }
set_option maxRecDepth 100000 in
set_option maxHeartbeats 4000000 in
theorem s_X11_bytesOfX (l : Launch) (D : va_G) (G : Nat → Nat) (b0 : Nat) (τ : Nat → Nat) (f : hM) (t : TI G 9 τ f) (u0 : Int32) (hu0 : iv u0 (-2147483648) 2147483647) : mI l yX11_bytesOf cX11_bytesOf 3 (.int) rm_s_X11_bytesOfX D G b0 f [.int u0] (fun r f1 => iv r 0 4 ∧ TI G 9 τ f1 ∧ Fr [] τ f f1 ∧ (r.toInt = nb u0)) := by
  refine met2 (own := RX11) (by decide) rfl (Nat.le_of_ble_eq_true rfl) ?_
  intro p e s m args below meth c ls Q hQ C hr hini hl h
  have hl : lv_has ls 3 [(0, .int u0)] := hl
  obtain ⟨hx, hb, hml, hown, hts, hE0, hlk⟩ := id C
  have o := Fr.rf [] τ f
  have hnb : nb u0 = nbq u0 24 + nbq u0 16 + nbq u0 8 + nbq u0 0 := rfl
  have hq24 := nbq_c u0 24
  have hq16 := nbq_c u0 16
  have hq8 := nbq_c u0 8
  have hq0 := nbq_c u0 0
  refine lv_iconst (v := 0) hx hb dX11_bytesOf_0 (by decide) ?_
  refine lv_istore_n (lv' := [(1, .int 0), (0, .int u0)]) hx hb dX11_bytesOf_1 rfl hl (by decide) rfl (fun ls hl => ?_)
  refine lv_iconst (v := 0) hx hb dX11_bytesOf_2 (by decide) ?_
  refine lv_istore_n (lv' := [(2, .int 0), (1, .int 0), (0, .int u0)]) hx hb dX11_bytesOf_3 rfl hl (by decide) rfl (fun ls hl => ?_)
  refine lv_iload_n hx hb dX11_bytesOf_4 rfl (lv_at hl 0 rfl) ?_
  refine lv_iconst (v := 4) hx hb dX11_bytesOf_5 (by decide) ?_
  refine lv_icmp_ge (tgt := 36) hx hb dX11_bytesOf_6 (by decide) (fun c1 => ?_) (fun c1 => ?_)
  · exact absurd c1 (by decide)
  · refine lv_iload_n hx hb dX11_bytesOf_9 rfl (lv_at hl 1 rfl) ?_
    refine lv_iload_n hx hb dX11_bytesOf_10 rfl (lv_at hl 2 rfl) ?_
    refine lv_bipush (v := 8) hx hb dX11_bytesOf_11 (by decide) ?_
    refine lv_iload_n hx hb dX11_bytesOf_13 rfl (lv_at hl 0 rfl) ?_
    refine lv_imul hx hb dX11_bytesOf_14 (lv_topi (fun x_ e_ => ?_))
    obtain rfl : 0 = x_ := by rw [e_]; decide
    refine lv_ishr hx hb dX11_bytesOf_15 (i_top (iv_any _) (fun z4 ez4 iz4 => ?_))
    refine lv_sipush (v := 255) hx hb dX11_bytesOf_16 (by decide) ?_
    refine lv_iand hx hb dX11_bytesOf_19 (i_top (iv_and (k := 255) rfl (by decide)) (fun z5 ez5 iz5 => ?_))
    have mz5 : z5.toInt = bt u0 0 := by rw [ez5, ez4]; exact bt_s0 _
    refine lv_if_ne (tgt := 27) hx hb dX11_bytesOf_20 (by decide) (fun c6 => ?_) (fun c6 => ?_)
    · have c7 : z5.toInt ≠ 0 := fun z_ => c6 (Int32.toInt_inj.mp z_)
      have i8 : iv z5 1 255 := iv_Nl c7 iz5 (by decide)
      refine lv_iconst (v := 1) hx hb dX11_bytesOf_27 (by decide) ?_
      refine lv_iadd hx hb dX11_bytesOf_28 (lv_topi (fun x_ e_ => ?_))
      obtain rfl : 1 = x_ := by rw [e_]; decide
      refine lv_istore_n (lv' := [(1, .int 1), (2, .int 0), (0, .int u0)]) hx hb dX11_bytesOf_29 rfl hl (by decide) rfl (fun ls hl => ?_)
      refine lv_iinc (v := 1) (lv' := [(2, .int 1), (1, .int 1), (0, .int u0)]) hx hb dX11_bytesOf_30 hl (k := 1) rfl (by decide) (by decide) rfl (fun ls hl => ?_)
      refine lv_goto (tgt := 4) hx hb dX11_bytesOf_33 (by decide) ?_
      refine lv_iload_n hx hb dX11_bytesOf_4 rfl (lv_at hl 0 rfl) ?_
      refine lv_iconst (v := 4) hx hb dX11_bytesOf_5 (by decide) ?_
      refine lv_icmp_ge (tgt := 36) hx hb dX11_bytesOf_6 (by decide) (fun c11 => ?_) (fun c11 => ?_)
      · exact absurd c11 (by decide)
      · refine lv_iload_n hx hb dX11_bytesOf_9 rfl (lv_at hl 1 rfl) ?_
        refine lv_iload_n hx hb dX11_bytesOf_10 rfl (lv_at hl 2 rfl) ?_
        refine lv_bipush (v := 8) hx hb dX11_bytesOf_11 (by decide) ?_
        refine lv_iload_n hx hb dX11_bytesOf_13 rfl (lv_at hl 0 rfl) ?_
        refine lv_imul hx hb dX11_bytesOf_14 (lv_topi (fun x_ e_ => ?_))
        obtain rfl : 8 = x_ := by rw [e_]; decide
        refine lv_ishr hx hb dX11_bytesOf_15 (i_top (iv_any _) (fun z14 ez14 iz14 => ?_))
        refine lv_sipush (v := 255) hx hb dX11_bytesOf_16 (by decide) ?_
        refine lv_iand hx hb dX11_bytesOf_19 (i_top (iv_and (k := 255) rfl (by decide)) (fun z15 ez15 iz15 => ?_))
        have mz15 : z15.toInt = bt u0 8 := by rw [ez15, ez14]; exact bt_s8 _
        refine lv_if_ne (tgt := 27) hx hb dX11_bytesOf_20 (by decide) (fun c16 => ?_) (fun c16 => ?_)
        · have c17 : z15.toInt ≠ 0 := fun z_ => c16 (Int32.toInt_inj.mp z_)
          have i18 : iv z15 1 255 := iv_Nl c17 iz15 (by decide)
          refine lv_iconst (v := 1) hx hb dX11_bytesOf_27 (by decide) ?_
          refine lv_iadd hx hb dX11_bytesOf_28 (lv_topi (fun x_ e_ => ?_))
          obtain rfl : 2 = x_ := by rw [e_]; decide
          refine lv_istore_n (lv' := [(1, .int 2), (2, .int 1), (0, .int u0)]) hx hb dX11_bytesOf_29 rfl hl (by decide) rfl (fun ls hl => ?_)
          refine lv_iinc (v := 2) (lv' := [(2, .int 2), (1, .int 2), (0, .int u0)]) hx hb dX11_bytesOf_30 hl (k := 1) rfl (by decide) (by decide) rfl (fun ls hl => ?_)
          refine lv_goto (tgt := 4) hx hb dX11_bytesOf_33 (by decide) ?_
          refine lv_iload_n hx hb dX11_bytesOf_4 rfl (lv_at hl 0 rfl) ?_
          refine lv_iconst (v := 4) hx hb dX11_bytesOf_5 (by decide) ?_
          refine lv_icmp_ge (tgt := 36) hx hb dX11_bytesOf_6 (by decide) (fun c21 => ?_) (fun c21 => ?_)
          · exact absurd c21 (by decide)
          · refine lv_iload_n hx hb dX11_bytesOf_9 rfl (lv_at hl 1 rfl) ?_
            refine lv_iload_n hx hb dX11_bytesOf_10 rfl (lv_at hl 2 rfl) ?_
            refine lv_bipush (v := 8) hx hb dX11_bytesOf_11 (by decide) ?_
            refine lv_iload_n hx hb dX11_bytesOf_13 rfl (lv_at hl 0 rfl) ?_
            refine lv_imul hx hb dX11_bytesOf_14 (lv_topi (fun x_ e_ => ?_))
            obtain rfl : 16 = x_ := by rw [e_]; decide
            refine lv_ishr hx hb dX11_bytesOf_15 (i_top (iv_any _) (fun z24 ez24 iz24 => ?_))
            refine lv_sipush (v := 255) hx hb dX11_bytesOf_16 (by decide) ?_
            refine lv_iand hx hb dX11_bytesOf_19 (i_top (iv_and (k := 255) rfl (by decide)) (fun z25 ez25 iz25 => ?_))
            have mz25 : z25.toInt = bt u0 16 := by rw [ez25, ez24]; exact bt_s16 _
            refine lv_if_ne (tgt := 27) hx hb dX11_bytesOf_20 (by decide) (fun c26 => ?_) (fun c26 => ?_)
            · have c27 : z25.toInt ≠ 0 := fun z_ => c26 (Int32.toInt_inj.mp z_)
              have i28 : iv z25 1 255 := iv_Nl c27 iz25 (by decide)
              refine lv_iconst (v := 1) hx hb dX11_bytesOf_27 (by decide) ?_
              refine lv_iadd hx hb dX11_bytesOf_28 (lv_topi (fun x_ e_ => ?_))
              obtain rfl : 3 = x_ := by rw [e_]; decide
              refine lv_istore_n (lv' := [(1, .int 3), (2, .int 2), (0, .int u0)]) hx hb dX11_bytesOf_29 rfl hl (by decide) rfl (fun ls hl => ?_)
              refine lv_iinc (v := 3) (lv' := [(2, .int 3), (1, .int 3), (0, .int u0)]) hx hb dX11_bytesOf_30 hl (k := 1) rfl (by decide) (by decide) rfl (fun ls hl => ?_)
              refine lv_goto (tgt := 4) hx hb dX11_bytesOf_33 (by decide) ?_
              refine lv_iload_n hx hb dX11_bytesOf_4 rfl (lv_at hl 0 rfl) ?_
              refine lv_iconst (v := 4) hx hb dX11_bytesOf_5 (by decide) ?_
              refine lv_icmp_ge (tgt := 36) hx hb dX11_bytesOf_6 (by decide) (fun c31 => ?_) (fun c31 => ?_)
              · exact absurd c31 (by decide)
              · refine lv_iload_n hx hb dX11_bytesOf_9 rfl (lv_at hl 1 rfl) ?_
                refine lv_iload_n hx hb dX11_bytesOf_10 rfl (lv_at hl 2 rfl) ?_
                refine lv_bipush (v := 8) hx hb dX11_bytesOf_11 (by decide) ?_
                refine lv_iload_n hx hb dX11_bytesOf_13 rfl (lv_at hl 0 rfl) ?_
                refine lv_imul hx hb dX11_bytesOf_14 (lv_topi (fun x_ e_ => ?_))
                obtain rfl : 24 = x_ := by rw [e_]; decide
                refine lv_ishr hx hb dX11_bytesOf_15 (i_top (iv_any _) (fun z34 ez34 iz34 => ?_))
                refine lv_sipush (v := 255) hx hb dX11_bytesOf_16 (by decide) ?_
                refine lv_iand hx hb dX11_bytesOf_19 (i_top (iv_and (k := 255) rfl (by decide)) (fun z35 ez35 iz35 => ?_))
                have mz35 : z35.toInt = bt u0 24 := by rw [ez35, ez34]; exact bt_s24 _
                refine lv_if_ne (tgt := 27) hx hb dX11_bytesOf_20 (by decide) (fun c36 => ?_) (fun c36 => ?_)
                · have c37 : z35.toInt ≠ 0 := fun z_ => c36 (Int32.toInt_inj.mp z_)
                  have i38 : iv z35 1 255 := iv_Nl c37 iz35 (by decide)
                  refine lv_iconst (v := 1) hx hb dX11_bytesOf_27 (by decide) ?_
                  refine lv_iadd hx hb dX11_bytesOf_28 (lv_topi (fun x_ e_ => ?_))
                  obtain rfl : 4 = x_ := by rw [e_]; decide
                  refine lv_istore_n (lv' := [(1, .int 4), (2, .int 3), (0, .int u0)]) hx hb dX11_bytesOf_29 rfl hl (by decide) rfl (fun ls hl => ?_)
                  refine lv_iinc (v := 4) (lv' := [(2, .int 4), (1, .int 4), (0, .int u0)]) hx hb dX11_bytesOf_30 hl (k := 1) rfl (by decide) (by decide) rfl (fun ls hl => ?_)
                  refine lv_goto (tgt := 4) hx hb dX11_bytesOf_33 (by decide) ?_
                  refine lv_iload_n hx hb dX11_bytesOf_4 rfl (lv_at hl 0 rfl) ?_
                  refine lv_iconst (v := 4) hx hb dX11_bytesOf_5 (by decide) ?_
                  refine lv_icmp_ge (tgt := 36) hx hb dX11_bytesOf_6 (by decide) (fun c41 => ?_) (fun c41 => ?_)
                  · refine lv_iload_n hx hb dX11_bytesOf_36 rfl (lv_at hl 1 rfl) ?_
                    exact u_iret C h hr hQ (⟨⟨by decide, by decide⟩, t, o, (by have n_ : (4 : Int32).toInt = 4 := rfl; omega)⟩) (Nat.le_of_ble_eq_true rfl) (Nat.le_of_ble_eq_true rfl) dX11_bytesOf_37
                  · exact absurd c41 (by decide)
                · have c39 : z35.toInt = 0 := congrArg Int32.toInt c36
                  have i40 : iv z35 0 0 := iv_Q c39 iz35 (iv_k (x := 0) (k := 0) rfl) (by decide)
                  refine lv_iconst (v := 0) hx hb dX11_bytesOf_23 (by decide) ?_
                  refine lv_goto (tgt := 28) hx hb dX11_bytesOf_24 (by decide) ?_
                  refine lv_iadd hx hb dX11_bytesOf_28 (lv_topi (fun x_ e_ => ?_))
                  obtain rfl : 3 = x_ := by rw [e_]; decide
                  refine lv_istore_n (lv' := [(1, .int 3), (2, .int 3), (0, .int u0)]) hx hb dX11_bytesOf_29 rfl hl (by decide) rfl (fun ls hl => ?_)
                  refine lv_iinc (v := 4) (lv' := [(2, .int 4), (1, .int 3), (0, .int u0)]) hx hb dX11_bytesOf_30 hl (k := 1) rfl (by decide) (by decide) rfl (fun ls hl => ?_)
                  refine lv_goto (tgt := 4) hx hb dX11_bytesOf_33 (by decide) ?_
                  refine lv_iload_n hx hb dX11_bytesOf_4 rfl (lv_at hl 0 rfl) ?_
                  refine lv_iconst (v := 4) hx hb dX11_bytesOf_5 (by decide) ?_
                  refine lv_icmp_ge (tgt := 36) hx hb dX11_bytesOf_6 (by decide) (fun c44 => ?_) (fun c44 => ?_)
                  · refine lv_iload_n hx hb dX11_bytesOf_36 rfl (lv_at hl 1 rfl) ?_
                    exact u_iret C h hr hQ (⟨⟨by decide, by decide⟩, t, o, (by have n_ : (3 : Int32).toInt = 3 := rfl; omega)⟩) (Nat.le_of_ble_eq_true rfl) (Nat.le_of_ble_eq_true rfl) dX11_bytesOf_37
                  · exact absurd c44 (by decide)
            · have c29 : z25.toInt = 0 := congrArg Int32.toInt c26
              have i30 : iv z25 0 0 := iv_Q c29 iz25 (iv_k (x := 0) (k := 0) rfl) (by decide)
              refine lv_iconst (v := 0) hx hb dX11_bytesOf_23 (by decide) ?_
              refine lv_goto (tgt := 28) hx hb dX11_bytesOf_24 (by decide) ?_
              refine lv_iadd hx hb dX11_bytesOf_28 (lv_topi (fun x_ e_ => ?_))
              obtain rfl : 2 = x_ := by rw [e_]; decide
              refine lv_istore_n (lv' := [(1, .int 2), (2, .int 2), (0, .int u0)]) hx hb dX11_bytesOf_29 rfl hl (by decide) rfl (fun ls hl => ?_)
              refine lv_iinc (v := 3) (lv' := [(2, .int 3), (1, .int 2), (0, .int u0)]) hx hb dX11_bytesOf_30 hl (k := 1) rfl (by decide) (by decide) rfl (fun ls hl => ?_)
              refine lv_goto (tgt := 4) hx hb dX11_bytesOf_33 (by decide) ?_
              refine lv_iload_n hx hb dX11_bytesOf_4 rfl (lv_at hl 0 rfl) ?_
              refine lv_iconst (v := 4) hx hb dX11_bytesOf_5 (by decide) ?_
              refine lv_icmp_ge (tgt := 36) hx hb dX11_bytesOf_6 (by decide) (fun c47 => ?_) (fun c47 => ?_)
              · exact absurd c47 (by decide)
              · refine lv_iload_n hx hb dX11_bytesOf_9 rfl (lv_at hl 1 rfl) ?_
                refine lv_iload_n hx hb dX11_bytesOf_10 rfl (lv_at hl 2 rfl) ?_
                refine lv_bipush (v := 8) hx hb dX11_bytesOf_11 (by decide) ?_
                refine lv_iload_n hx hb dX11_bytesOf_13 rfl (lv_at hl 0 rfl) ?_
                refine lv_imul hx hb dX11_bytesOf_14 (lv_topi (fun x_ e_ => ?_))
                obtain rfl : 24 = x_ := by rw [e_]; decide
                refine lv_ishr hx hb dX11_bytesOf_15 (i_top (iv_any _) (fun z50 ez50 iz50 => ?_))
                refine lv_sipush (v := 255) hx hb dX11_bytesOf_16 (by decide) ?_
                refine lv_iand hx hb dX11_bytesOf_19 (i_top (iv_and (k := 255) rfl (by decide)) (fun z51 ez51 iz51 => ?_))
                have mz51 : z51.toInt = bt u0 24 := by rw [ez51, ez50]; exact bt_s24 _
                refine lv_if_ne (tgt := 27) hx hb dX11_bytesOf_20 (by decide) (fun c52 => ?_) (fun c52 => ?_)
                · have c53 : z51.toInt ≠ 0 := fun z_ => c52 (Int32.toInt_inj.mp z_)
                  have i54 : iv z51 1 255 := iv_Nl c53 iz51 (by decide)
                  refine lv_iconst (v := 1) hx hb dX11_bytesOf_27 (by decide) ?_
                  refine lv_iadd hx hb dX11_bytesOf_28 (lv_topi (fun x_ e_ => ?_))
                  obtain rfl : 3 = x_ := by rw [e_]; decide
                  refine lv_istore_n (lv' := [(1, .int 3), (2, .int 3), (0, .int u0)]) hx hb dX11_bytesOf_29 rfl hl (by decide) rfl (fun ls hl => ?_)
                  refine lv_iinc (v := 4) (lv' := [(2, .int 4), (1, .int 3), (0, .int u0)]) hx hb dX11_bytesOf_30 hl (k := 1) rfl (by decide) (by decide) rfl (fun ls hl => ?_)
                  refine lv_goto (tgt := 4) hx hb dX11_bytesOf_33 (by decide) ?_
                  refine lv_iload_n hx hb dX11_bytesOf_4 rfl (lv_at hl 0 rfl) ?_
                  refine lv_iconst (v := 4) hx hb dX11_bytesOf_5 (by decide) ?_
                  refine lv_icmp_ge (tgt := 36) hx hb dX11_bytesOf_6 (by decide) (fun c57 => ?_) (fun c57 => ?_)
                  · refine lv_iload_n hx hb dX11_bytesOf_36 rfl (lv_at hl 1 rfl) ?_
                    exact u_iret C h hr hQ (⟨⟨by decide, by decide⟩, t, o, (by have n_ : (3 : Int32).toInt = 3 := rfl; omega)⟩) (Nat.le_of_ble_eq_true rfl) (Nat.le_of_ble_eq_true rfl) dX11_bytesOf_37
                  · exact absurd c57 (by decide)
                · have c55 : z51.toInt = 0 := congrArg Int32.toInt c52
                  have i56 : iv z51 0 0 := iv_Q c55 iz51 (iv_k (x := 0) (k := 0) rfl) (by decide)
                  refine lv_iconst (v := 0) hx hb dX11_bytesOf_23 (by decide) ?_
                  refine lv_goto (tgt := 28) hx hb dX11_bytesOf_24 (by decide) ?_
                  refine lv_iadd hx hb dX11_bytesOf_28 (lv_topi (fun x_ e_ => ?_))
                  obtain rfl : 2 = x_ := by rw [e_]; decide
                  refine lv_istore_n (lv' := [(1, .int 2), (2, .int 3), (0, .int u0)]) hx hb dX11_bytesOf_29 rfl hl (by decide) rfl (fun ls hl => ?_)
                  refine lv_iinc (v := 4) (lv' := [(2, .int 4), (1, .int 2), (0, .int u0)]) hx hb dX11_bytesOf_30 hl (k := 1) rfl (by decide) (by decide) rfl (fun ls hl => ?_)
                  refine lv_goto (tgt := 4) hx hb dX11_bytesOf_33 (by decide) ?_
                  refine lv_iload_n hx hb dX11_bytesOf_4 rfl (lv_at hl 0 rfl) ?_
                  refine lv_iconst (v := 4) hx hb dX11_bytesOf_5 (by decide) ?_
                  refine lv_icmp_ge (tgt := 36) hx hb dX11_bytesOf_6 (by decide) (fun c60 => ?_) (fun c60 => ?_)
                  · refine lv_iload_n hx hb dX11_bytesOf_36 rfl (lv_at hl 1 rfl) ?_
                    exact u_iret C h hr hQ (⟨⟨by decide, by decide⟩, t, o, (by have n_ : (2 : Int32).toInt = 2 := rfl; omega)⟩) (Nat.le_of_ble_eq_true rfl) (Nat.le_of_ble_eq_true rfl) dX11_bytesOf_37
                  · exact absurd c60 (by decide)
        · have c19 : z15.toInt = 0 := congrArg Int32.toInt c16
          have i20 : iv z15 0 0 := iv_Q c19 iz15 (iv_k (x := 0) (k := 0) rfl) (by decide)
          refine lv_iconst (v := 0) hx hb dX11_bytesOf_23 (by decide) ?_
          refine lv_goto (tgt := 28) hx hb dX11_bytesOf_24 (by decide) ?_
          refine lv_iadd hx hb dX11_bytesOf_28 (lv_topi (fun x_ e_ => ?_))
          obtain rfl : 1 = x_ := by rw [e_]; decide
          refine lv_istore_n (lv' := [(1, .int 1), (2, .int 1), (0, .int u0)]) hx hb dX11_bytesOf_29 rfl hl (by decide) rfl (fun ls hl => ?_)
          refine lv_iinc (v := 2) (lv' := [(2, .int 2), (1, .int 1), (0, .int u0)]) hx hb dX11_bytesOf_30 hl (k := 1) rfl (by decide) (by decide) rfl (fun ls hl => ?_)
          refine lv_goto (tgt := 4) hx hb dX11_bytesOf_33 (by decide) ?_
          refine lv_iload_n hx hb dX11_bytesOf_4 rfl (lv_at hl 0 rfl) ?_
          refine lv_iconst (v := 4) hx hb dX11_bytesOf_5 (by decide) ?_
          refine lv_icmp_ge (tgt := 36) hx hb dX11_bytesOf_6 (by decide) (fun c63 => ?_) (fun c63 => ?_)
          · exact absurd c63 (by decide)
          · refine lv_iload_n hx hb dX11_bytesOf_9 rfl (lv_at hl 1 rfl) ?_
            refine lv_iload_n hx hb dX11_bytesOf_10 rfl (lv_at hl 2 rfl) ?_
            refine lv_bipush (v := 8) hx hb dX11_bytesOf_11 (by decide) ?_
            refine lv_iload_n hx hb dX11_bytesOf_13 rfl (lv_at hl 0 rfl) ?_
            refine lv_imul hx hb dX11_bytesOf_14 (lv_topi (fun x_ e_ => ?_))
            obtain rfl : 16 = x_ := by rw [e_]; decide
            refine lv_ishr hx hb dX11_bytesOf_15 (i_top (iv_any _) (fun z66 ez66 iz66 => ?_))
            refine lv_sipush (v := 255) hx hb dX11_bytesOf_16 (by decide) ?_
            refine lv_iand hx hb dX11_bytesOf_19 (i_top (iv_and (k := 255) rfl (by decide)) (fun z67 ez67 iz67 => ?_))
            have mz67 : z67.toInt = bt u0 16 := by rw [ez67, ez66]; exact bt_s16 _
            refine lv_if_ne (tgt := 27) hx hb dX11_bytesOf_20 (by decide) (fun c68 => ?_) (fun c68 => ?_)
            · have c69 : z67.toInt ≠ 0 := fun z_ => c68 (Int32.toInt_inj.mp z_)
              have i70 : iv z67 1 255 := iv_Nl c69 iz67 (by decide)
              refine lv_iconst (v := 1) hx hb dX11_bytesOf_27 (by decide) ?_
              refine lv_iadd hx hb dX11_bytesOf_28 (lv_topi (fun x_ e_ => ?_))
              obtain rfl : 2 = x_ := by rw [e_]; decide
              refine lv_istore_n (lv' := [(1, .int 2), (2, .int 2), (0, .int u0)]) hx hb dX11_bytesOf_29 rfl hl (by decide) rfl (fun ls hl => ?_)
              refine lv_iinc (v := 3) (lv' := [(2, .int 3), (1, .int 2), (0, .int u0)]) hx hb dX11_bytesOf_30 hl (k := 1) rfl (by decide) (by decide) rfl (fun ls hl => ?_)
              refine lv_goto (tgt := 4) hx hb dX11_bytesOf_33 (by decide) ?_
              refine lv_iload_n hx hb dX11_bytesOf_4 rfl (lv_at hl 0 rfl) ?_
              refine lv_iconst (v := 4) hx hb dX11_bytesOf_5 (by decide) ?_
              refine lv_icmp_ge (tgt := 36) hx hb dX11_bytesOf_6 (by decide) (fun c73 => ?_) (fun c73 => ?_)
              · exact absurd c73 (by decide)
              · refine lv_iload_n hx hb dX11_bytesOf_9 rfl (lv_at hl 1 rfl) ?_
                refine lv_iload_n hx hb dX11_bytesOf_10 rfl (lv_at hl 2 rfl) ?_
                refine lv_bipush (v := 8) hx hb dX11_bytesOf_11 (by decide) ?_
                refine lv_iload_n hx hb dX11_bytesOf_13 rfl (lv_at hl 0 rfl) ?_
                refine lv_imul hx hb dX11_bytesOf_14 (lv_topi (fun x_ e_ => ?_))
                obtain rfl : 24 = x_ := by rw [e_]; decide
                refine lv_ishr hx hb dX11_bytesOf_15 (i_top (iv_any _) (fun z76 ez76 iz76 => ?_))
                refine lv_sipush (v := 255) hx hb dX11_bytesOf_16 (by decide) ?_
                refine lv_iand hx hb dX11_bytesOf_19 (i_top (iv_and (k := 255) rfl (by decide)) (fun z77 ez77 iz77 => ?_))
                have mz77 : z77.toInt = bt u0 24 := by rw [ez77, ez76]; exact bt_s24 _
                refine lv_if_ne (tgt := 27) hx hb dX11_bytesOf_20 (by decide) (fun c78 => ?_) (fun c78 => ?_)
                · have c79 : z77.toInt ≠ 0 := fun z_ => c78 (Int32.toInt_inj.mp z_)
                  have i80 : iv z77 1 255 := iv_Nl c79 iz77 (by decide)
                  refine lv_iconst (v := 1) hx hb dX11_bytesOf_27 (by decide) ?_
                  refine lv_iadd hx hb dX11_bytesOf_28 (lv_topi (fun x_ e_ => ?_))
                  obtain rfl : 3 = x_ := by rw [e_]; decide
                  refine lv_istore_n (lv' := [(1, .int 3), (2, .int 3), (0, .int u0)]) hx hb dX11_bytesOf_29 rfl hl (by decide) rfl (fun ls hl => ?_)
                  refine lv_iinc (v := 4) (lv' := [(2, .int 4), (1, .int 3), (0, .int u0)]) hx hb dX11_bytesOf_30 hl (k := 1) rfl (by decide) (by decide) rfl (fun ls hl => ?_)
                  refine lv_goto (tgt := 4) hx hb dX11_bytesOf_33 (by decide) ?_
                  refine lv_iload_n hx hb dX11_bytesOf_4 rfl (lv_at hl 0 rfl) ?_
                  refine lv_iconst (v := 4) hx hb dX11_bytesOf_5 (by decide) ?_
                  refine lv_icmp_ge (tgt := 36) hx hb dX11_bytesOf_6 (by decide) (fun c83 => ?_) (fun c83 => ?_)
                  · refine lv_iload_n hx hb dX11_bytesOf_36 rfl (lv_at hl 1 rfl) ?_
                    exact u_iret C h hr hQ (⟨⟨by decide, by decide⟩, t, o, (by have n_ : (3 : Int32).toInt = 3 := rfl; omega)⟩) (Nat.le_of_ble_eq_true rfl) (Nat.le_of_ble_eq_true rfl) dX11_bytesOf_37
                  · exact absurd c83 (by decide)
                · have c81 : z77.toInt = 0 := congrArg Int32.toInt c78
                  have i82 : iv z77 0 0 := iv_Q c81 iz77 (iv_k (x := 0) (k := 0) rfl) (by decide)
                  refine lv_iconst (v := 0) hx hb dX11_bytesOf_23 (by decide) ?_
                  refine lv_goto (tgt := 28) hx hb dX11_bytesOf_24 (by decide) ?_
                  refine lv_iadd hx hb dX11_bytesOf_28 (lv_topi (fun x_ e_ => ?_))
                  obtain rfl : 2 = x_ := by rw [e_]; decide
                  refine lv_istore_n (lv' := [(1, .int 2), (2, .int 3), (0, .int u0)]) hx hb dX11_bytesOf_29 rfl hl (by decide) rfl (fun ls hl => ?_)
                  refine lv_iinc (v := 4) (lv' := [(2, .int 4), (1, .int 2), (0, .int u0)]) hx hb dX11_bytesOf_30 hl (k := 1) rfl (by decide) (by decide) rfl (fun ls hl => ?_)
                  refine lv_goto (tgt := 4) hx hb dX11_bytesOf_33 (by decide) ?_
                  refine lv_iload_n hx hb dX11_bytesOf_4 rfl (lv_at hl 0 rfl) ?_
                  refine lv_iconst (v := 4) hx hb dX11_bytesOf_5 (by decide) ?_
                  refine lv_icmp_ge (tgt := 36) hx hb dX11_bytesOf_6 (by decide) (fun c86 => ?_) (fun c86 => ?_)
                  · refine lv_iload_n hx hb dX11_bytesOf_36 rfl (lv_at hl 1 rfl) ?_
                    exact u_iret C h hr hQ (⟨⟨by decide, by decide⟩, t, o, (by have n_ : (2 : Int32).toInt = 2 := rfl; omega)⟩) (Nat.le_of_ble_eq_true rfl) (Nat.le_of_ble_eq_true rfl) dX11_bytesOf_37
                  · exact absurd c86 (by decide)
            · have c71 : z67.toInt = 0 := congrArg Int32.toInt c68
              have i72 : iv z67 0 0 := iv_Q c71 iz67 (iv_k (x := 0) (k := 0) rfl) (by decide)
              refine lv_iconst (v := 0) hx hb dX11_bytesOf_23 (by decide) ?_
              refine lv_goto (tgt := 28) hx hb dX11_bytesOf_24 (by decide) ?_
              refine lv_iadd hx hb dX11_bytesOf_28 (lv_topi (fun x_ e_ => ?_))
              obtain rfl : 1 = x_ := by rw [e_]; decide
              refine lv_istore_n (lv' := [(1, .int 1), (2, .int 2), (0, .int u0)]) hx hb dX11_bytesOf_29 rfl hl (by decide) rfl (fun ls hl => ?_)
              refine lv_iinc (v := 3) (lv' := [(2, .int 3), (1, .int 1), (0, .int u0)]) hx hb dX11_bytesOf_30 hl (k := 1) rfl (by decide) (by decide) rfl (fun ls hl => ?_)
              refine lv_goto (tgt := 4) hx hb dX11_bytesOf_33 (by decide) ?_
              refine lv_iload_n hx hb dX11_bytesOf_4 rfl (lv_at hl 0 rfl) ?_
              refine lv_iconst (v := 4) hx hb dX11_bytesOf_5 (by decide) ?_
              refine lv_icmp_ge (tgt := 36) hx hb dX11_bytesOf_6 (by decide) (fun c89 => ?_) (fun c89 => ?_)
              · exact absurd c89 (by decide)
              · refine lv_iload_n hx hb dX11_bytesOf_9 rfl (lv_at hl 1 rfl) ?_
                refine lv_iload_n hx hb dX11_bytesOf_10 rfl (lv_at hl 2 rfl) ?_
                refine lv_bipush (v := 8) hx hb dX11_bytesOf_11 (by decide) ?_
                refine lv_iload_n hx hb dX11_bytesOf_13 rfl (lv_at hl 0 rfl) ?_
                refine lv_imul hx hb dX11_bytesOf_14 (lv_topi (fun x_ e_ => ?_))
                obtain rfl : 24 = x_ := by rw [e_]; decide
                refine lv_ishr hx hb dX11_bytesOf_15 (i_top (iv_any _) (fun z92 ez92 iz92 => ?_))
                refine lv_sipush (v := 255) hx hb dX11_bytesOf_16 (by decide) ?_
                refine lv_iand hx hb dX11_bytesOf_19 (i_top (iv_and (k := 255) rfl (by decide)) (fun z93 ez93 iz93 => ?_))
                have mz93 : z93.toInt = bt u0 24 := by rw [ez93, ez92]; exact bt_s24 _
                refine lv_if_ne (tgt := 27) hx hb dX11_bytesOf_20 (by decide) (fun c94 => ?_) (fun c94 => ?_)
                · have c95 : z93.toInt ≠ 0 := fun z_ => c94 (Int32.toInt_inj.mp z_)
                  have i96 : iv z93 1 255 := iv_Nl c95 iz93 (by decide)
                  refine lv_iconst (v := 1) hx hb dX11_bytesOf_27 (by decide) ?_
                  refine lv_iadd hx hb dX11_bytesOf_28 (lv_topi (fun x_ e_ => ?_))
                  obtain rfl : 2 = x_ := by rw [e_]; decide
                  refine lv_istore_n (lv' := [(1, .int 2), (2, .int 3), (0, .int u0)]) hx hb dX11_bytesOf_29 rfl hl (by decide) rfl (fun ls hl => ?_)
                  refine lv_iinc (v := 4) (lv' := [(2, .int 4), (1, .int 2), (0, .int u0)]) hx hb dX11_bytesOf_30 hl (k := 1) rfl (by decide) (by decide) rfl (fun ls hl => ?_)
                  refine lv_goto (tgt := 4) hx hb dX11_bytesOf_33 (by decide) ?_
                  refine lv_iload_n hx hb dX11_bytesOf_4 rfl (lv_at hl 0 rfl) ?_
                  refine lv_iconst (v := 4) hx hb dX11_bytesOf_5 (by decide) ?_
                  refine lv_icmp_ge (tgt := 36) hx hb dX11_bytesOf_6 (by decide) (fun c99 => ?_) (fun c99 => ?_)
                  · refine lv_iload_n hx hb dX11_bytesOf_36 rfl (lv_at hl 1 rfl) ?_
                    exact u_iret C h hr hQ (⟨⟨by decide, by decide⟩, t, o, (by have n_ : (2 : Int32).toInt = 2 := rfl; omega)⟩) (Nat.le_of_ble_eq_true rfl) (Nat.le_of_ble_eq_true rfl) dX11_bytesOf_37
                  · exact absurd c99 (by decide)
                · have c97 : z93.toInt = 0 := congrArg Int32.toInt c94
                  have i98 : iv z93 0 0 := iv_Q c97 iz93 (iv_k (x := 0) (k := 0) rfl) (by decide)
                  refine lv_iconst (v := 0) hx hb dX11_bytesOf_23 (by decide) ?_
                  refine lv_goto (tgt := 28) hx hb dX11_bytesOf_24 (by decide) ?_
                  refine lv_iadd hx hb dX11_bytesOf_28 (lv_topi (fun x_ e_ => ?_))
                  obtain rfl : 1 = x_ := by rw [e_]; decide
                  refine lv_istore_n (lv' := [(1, .int 1), (2, .int 3), (0, .int u0)]) hx hb dX11_bytesOf_29 rfl hl (by decide) rfl (fun ls hl => ?_)
                  refine lv_iinc (v := 4) (lv' := [(2, .int 4), (1, .int 1), (0, .int u0)]) hx hb dX11_bytesOf_30 hl (k := 1) rfl (by decide) (by decide) rfl (fun ls hl => ?_)
                  refine lv_goto (tgt := 4) hx hb dX11_bytesOf_33 (by decide) ?_
                  refine lv_iload_n hx hb dX11_bytesOf_4 rfl (lv_at hl 0 rfl) ?_
                  refine lv_iconst (v := 4) hx hb dX11_bytesOf_5 (by decide) ?_
                  refine lv_icmp_ge (tgt := 36) hx hb dX11_bytesOf_6 (by decide) (fun c102 => ?_) (fun c102 => ?_)
                  · refine lv_iload_n hx hb dX11_bytesOf_36 rfl (lv_at hl 1 rfl) ?_
                    exact u_iret C h hr hQ (⟨⟨by decide, by decide⟩, t, o, (by have n_ : (1 : Int32).toInt = 1 := rfl; omega)⟩) (Nat.le_of_ble_eq_true rfl) (Nat.le_of_ble_eq_true rfl) dX11_bytesOf_37
                  · exact absurd c102 (by decide)
    · have c9 : z5.toInt = 0 := congrArg Int32.toInt c6
      have i10 : iv z5 0 0 := iv_Q c9 iz5 (iv_k (x := 0) (k := 0) rfl) (by decide)
      refine lv_iconst (v := 0) hx hb dX11_bytesOf_23 (by decide) ?_
      refine lv_goto (tgt := 28) hx hb dX11_bytesOf_24 (by decide) ?_
      refine lv_iadd hx hb dX11_bytesOf_28 (lv_topi (fun x_ e_ => ?_))
      obtain rfl : 0 = x_ := by rw [e_]; decide
      refine lv_istore_n (lv' := [(1, .int 0), (2, .int 0), (0, .int u0)]) hx hb dX11_bytesOf_29 rfl hl (by decide) rfl (fun ls hl => ?_)
      refine lv_iinc (v := 1) (lv' := [(2, .int 1), (1, .int 0), (0, .int u0)]) hx hb dX11_bytesOf_30 hl (k := 1) rfl (by decide) (by decide) rfl (fun ls hl => ?_)
      refine lv_goto (tgt := 4) hx hb dX11_bytesOf_33 (by decide) ?_
      refine lv_iload_n hx hb dX11_bytesOf_4 rfl (lv_at hl 0 rfl) ?_
      refine lv_iconst (v := 4) hx hb dX11_bytesOf_5 (by decide) ?_
      refine lv_icmp_ge (tgt := 36) hx hb dX11_bytesOf_6 (by decide) (fun c105 => ?_) (fun c105 => ?_)
      · exact absurd c105 (by decide)
      · refine lv_iload_n hx hb dX11_bytesOf_9 rfl (lv_at hl 1 rfl) ?_
        refine lv_iload_n hx hb dX11_bytesOf_10 rfl (lv_at hl 2 rfl) ?_
        refine lv_bipush (v := 8) hx hb dX11_bytesOf_11 (by decide) ?_
        refine lv_iload_n hx hb dX11_bytesOf_13 rfl (lv_at hl 0 rfl) ?_
        refine lv_imul hx hb dX11_bytesOf_14 (lv_topi (fun x_ e_ => ?_))
        obtain rfl : 8 = x_ := by rw [e_]; decide
        refine lv_ishr hx hb dX11_bytesOf_15 (i_top (iv_any _) (fun z108 ez108 iz108 => ?_))
        refine lv_sipush (v := 255) hx hb dX11_bytesOf_16 (by decide) ?_
        refine lv_iand hx hb dX11_bytesOf_19 (i_top (iv_and (k := 255) rfl (by decide)) (fun z109 ez109 iz109 => ?_))
        have mz109 : z109.toInt = bt u0 8 := by rw [ez109, ez108]; exact bt_s8 _
        refine lv_if_ne (tgt := 27) hx hb dX11_bytesOf_20 (by decide) (fun c110 => ?_) (fun c110 => ?_)
        · have c111 : z109.toInt ≠ 0 := fun z_ => c110 (Int32.toInt_inj.mp z_)
          have i112 : iv z109 1 255 := iv_Nl c111 iz109 (by decide)
          refine lv_iconst (v := 1) hx hb dX11_bytesOf_27 (by decide) ?_
          refine lv_iadd hx hb dX11_bytesOf_28 (lv_topi (fun x_ e_ => ?_))
          obtain rfl : 1 = x_ := by rw [e_]; decide
          refine lv_istore_n (lv' := [(1, .int 1), (2, .int 1), (0, .int u0)]) hx hb dX11_bytesOf_29 rfl hl (by decide) rfl (fun ls hl => ?_)
          refine lv_iinc (v := 2) (lv' := [(2, .int 2), (1, .int 1), (0, .int u0)]) hx hb dX11_bytesOf_30 hl (k := 1) rfl (by decide) (by decide) rfl (fun ls hl => ?_)
          refine lv_goto (tgt := 4) hx hb dX11_bytesOf_33 (by decide) ?_
          refine lv_iload_n hx hb dX11_bytesOf_4 rfl (lv_at hl 0 rfl) ?_
          refine lv_iconst (v := 4) hx hb dX11_bytesOf_5 (by decide) ?_
          refine lv_icmp_ge (tgt := 36) hx hb dX11_bytesOf_6 (by decide) (fun c115 => ?_) (fun c115 => ?_)
          · exact absurd c115 (by decide)
          · refine lv_iload_n hx hb dX11_bytesOf_9 rfl (lv_at hl 1 rfl) ?_
            refine lv_iload_n hx hb dX11_bytesOf_10 rfl (lv_at hl 2 rfl) ?_
            refine lv_bipush (v := 8) hx hb dX11_bytesOf_11 (by decide) ?_
            refine lv_iload_n hx hb dX11_bytesOf_13 rfl (lv_at hl 0 rfl) ?_
            refine lv_imul hx hb dX11_bytesOf_14 (lv_topi (fun x_ e_ => ?_))
            obtain rfl : 16 = x_ := by rw [e_]; decide
            refine lv_ishr hx hb dX11_bytesOf_15 (i_top (iv_any _) (fun z118 ez118 iz118 => ?_))
            refine lv_sipush (v := 255) hx hb dX11_bytesOf_16 (by decide) ?_
            refine lv_iand hx hb dX11_bytesOf_19 (i_top (iv_and (k := 255) rfl (by decide)) (fun z119 ez119 iz119 => ?_))
            have mz119 : z119.toInt = bt u0 16 := by rw [ez119, ez118]; exact bt_s16 _
            refine lv_if_ne (tgt := 27) hx hb dX11_bytesOf_20 (by decide) (fun c120 => ?_) (fun c120 => ?_)
            · have c121 : z119.toInt ≠ 0 := fun z_ => c120 (Int32.toInt_inj.mp z_)
              have i122 : iv z119 1 255 := iv_Nl c121 iz119 (by decide)
              refine lv_iconst (v := 1) hx hb dX11_bytesOf_27 (by decide) ?_
              refine lv_iadd hx hb dX11_bytesOf_28 (lv_topi (fun x_ e_ => ?_))
              obtain rfl : 2 = x_ := by rw [e_]; decide
              refine lv_istore_n (lv' := [(1, .int 2), (2, .int 2), (0, .int u0)]) hx hb dX11_bytesOf_29 rfl hl (by decide) rfl (fun ls hl => ?_)
              refine lv_iinc (v := 3) (lv' := [(2, .int 3), (1, .int 2), (0, .int u0)]) hx hb dX11_bytesOf_30 hl (k := 1) rfl (by decide) (by decide) rfl (fun ls hl => ?_)
              refine lv_goto (tgt := 4) hx hb dX11_bytesOf_33 (by decide) ?_
              refine lv_iload_n hx hb dX11_bytesOf_4 rfl (lv_at hl 0 rfl) ?_
              refine lv_iconst (v := 4) hx hb dX11_bytesOf_5 (by decide) ?_
              refine lv_icmp_ge (tgt := 36) hx hb dX11_bytesOf_6 (by decide) (fun c125 => ?_) (fun c125 => ?_)
              · exact absurd c125 (by decide)
              · refine lv_iload_n hx hb dX11_bytesOf_9 rfl (lv_at hl 1 rfl) ?_
                refine lv_iload_n hx hb dX11_bytesOf_10 rfl (lv_at hl 2 rfl) ?_
                refine lv_bipush (v := 8) hx hb dX11_bytesOf_11 (by decide) ?_
                refine lv_iload_n hx hb dX11_bytesOf_13 rfl (lv_at hl 0 rfl) ?_
                refine lv_imul hx hb dX11_bytesOf_14 (lv_topi (fun x_ e_ => ?_))
                obtain rfl : 24 = x_ := by rw [e_]; decide
                refine lv_ishr hx hb dX11_bytesOf_15 (i_top (iv_any _) (fun z128 ez128 iz128 => ?_))
                refine lv_sipush (v := 255) hx hb dX11_bytesOf_16 (by decide) ?_
                refine lv_iand hx hb dX11_bytesOf_19 (i_top (iv_and (k := 255) rfl (by decide)) (fun z129 ez129 iz129 => ?_))
                have mz129 : z129.toInt = bt u0 24 := by rw [ez129, ez128]; exact bt_s24 _
                refine lv_if_ne (tgt := 27) hx hb dX11_bytesOf_20 (by decide) (fun c130 => ?_) (fun c130 => ?_)
                · have c131 : z129.toInt ≠ 0 := fun z_ => c130 (Int32.toInt_inj.mp z_)
                  have i132 : iv z129 1 255 := iv_Nl c131 iz129 (by decide)
                  refine lv_iconst (v := 1) hx hb dX11_bytesOf_27 (by decide) ?_
                  refine lv_iadd hx hb dX11_bytesOf_28 (lv_topi (fun x_ e_ => ?_))
                  obtain rfl : 3 = x_ := by rw [e_]; decide
                  refine lv_istore_n (lv' := [(1, .int 3), (2, .int 3), (0, .int u0)]) hx hb dX11_bytesOf_29 rfl hl (by decide) rfl (fun ls hl => ?_)
                  refine lv_iinc (v := 4) (lv' := [(2, .int 4), (1, .int 3), (0, .int u0)]) hx hb dX11_bytesOf_30 hl (k := 1) rfl (by decide) (by decide) rfl (fun ls hl => ?_)
                  refine lv_goto (tgt := 4) hx hb dX11_bytesOf_33 (by decide) ?_
                  refine lv_iload_n hx hb dX11_bytesOf_4 rfl (lv_at hl 0 rfl) ?_
                  refine lv_iconst (v := 4) hx hb dX11_bytesOf_5 (by decide) ?_
                  refine lv_icmp_ge (tgt := 36) hx hb dX11_bytesOf_6 (by decide) (fun c135 => ?_) (fun c135 => ?_)
                  · refine lv_iload_n hx hb dX11_bytesOf_36 rfl (lv_at hl 1 rfl) ?_
                    exact u_iret C h hr hQ (⟨⟨by decide, by decide⟩, t, o, (by have n_ : (3 : Int32).toInt = 3 := rfl; omega)⟩) (Nat.le_of_ble_eq_true rfl) (Nat.le_of_ble_eq_true rfl) dX11_bytesOf_37
                  · exact absurd c135 (by decide)
                · have c133 : z129.toInt = 0 := congrArg Int32.toInt c130
                  have i134 : iv z129 0 0 := iv_Q c133 iz129 (iv_k (x := 0) (k := 0) rfl) (by decide)
                  refine lv_iconst (v := 0) hx hb dX11_bytesOf_23 (by decide) ?_
                  refine lv_goto (tgt := 28) hx hb dX11_bytesOf_24 (by decide) ?_
                  refine lv_iadd hx hb dX11_bytesOf_28 (lv_topi (fun x_ e_ => ?_))
                  obtain rfl : 2 = x_ := by rw [e_]; decide
                  refine lv_istore_n (lv' := [(1, .int 2), (2, .int 3), (0, .int u0)]) hx hb dX11_bytesOf_29 rfl hl (by decide) rfl (fun ls hl => ?_)
                  refine lv_iinc (v := 4) (lv' := [(2, .int 4), (1, .int 2), (0, .int u0)]) hx hb dX11_bytesOf_30 hl (k := 1) rfl (by decide) (by decide) rfl (fun ls hl => ?_)
                  refine lv_goto (tgt := 4) hx hb dX11_bytesOf_33 (by decide) ?_
                  refine lv_iload_n hx hb dX11_bytesOf_4 rfl (lv_at hl 0 rfl) ?_
                  refine lv_iconst (v := 4) hx hb dX11_bytesOf_5 (by decide) ?_
                  refine lv_icmp_ge (tgt := 36) hx hb dX11_bytesOf_6 (by decide) (fun c138 => ?_) (fun c138 => ?_)
                  · refine lv_iload_n hx hb dX11_bytesOf_36 rfl (lv_at hl 1 rfl) ?_
                    exact u_iret C h hr hQ (⟨⟨by decide, by decide⟩, t, o, (by have n_ : (2 : Int32).toInt = 2 := rfl; omega)⟩) (Nat.le_of_ble_eq_true rfl) (Nat.le_of_ble_eq_true rfl) dX11_bytesOf_37
                  · exact absurd c138 (by decide)
            · have c123 : z119.toInt = 0 := congrArg Int32.toInt c120
              have i124 : iv z119 0 0 := iv_Q c123 iz119 (iv_k (x := 0) (k := 0) rfl) (by decide)
              refine lv_iconst (v := 0) hx hb dX11_bytesOf_23 (by decide) ?_
              refine lv_goto (tgt := 28) hx hb dX11_bytesOf_24 (by decide) ?_
              refine lv_iadd hx hb dX11_bytesOf_28 (lv_topi (fun x_ e_ => ?_))
              obtain rfl : 1 = x_ := by rw [e_]; decide
              refine lv_istore_n (lv' := [(1, .int 1), (2, .int 2), (0, .int u0)]) hx hb dX11_bytesOf_29 rfl hl (by decide) rfl (fun ls hl => ?_)
              refine lv_iinc (v := 3) (lv' := [(2, .int 3), (1, .int 1), (0, .int u0)]) hx hb dX11_bytesOf_30 hl (k := 1) rfl (by decide) (by decide) rfl (fun ls hl => ?_)
              refine lv_goto (tgt := 4) hx hb dX11_bytesOf_33 (by decide) ?_
              refine lv_iload_n hx hb dX11_bytesOf_4 rfl (lv_at hl 0 rfl) ?_
              refine lv_iconst (v := 4) hx hb dX11_bytesOf_5 (by decide) ?_
              refine lv_icmp_ge (tgt := 36) hx hb dX11_bytesOf_6 (by decide) (fun c141 => ?_) (fun c141 => ?_)
              · exact absurd c141 (by decide)
              · refine lv_iload_n hx hb dX11_bytesOf_9 rfl (lv_at hl 1 rfl) ?_
                refine lv_iload_n hx hb dX11_bytesOf_10 rfl (lv_at hl 2 rfl) ?_
                refine lv_bipush (v := 8) hx hb dX11_bytesOf_11 (by decide) ?_
                refine lv_iload_n hx hb dX11_bytesOf_13 rfl (lv_at hl 0 rfl) ?_
                refine lv_imul hx hb dX11_bytesOf_14 (lv_topi (fun x_ e_ => ?_))
                obtain rfl : 24 = x_ := by rw [e_]; decide
                refine lv_ishr hx hb dX11_bytesOf_15 (i_top (iv_any _) (fun z144 ez144 iz144 => ?_))
                refine lv_sipush (v := 255) hx hb dX11_bytesOf_16 (by decide) ?_
                refine lv_iand hx hb dX11_bytesOf_19 (i_top (iv_and (k := 255) rfl (by decide)) (fun z145 ez145 iz145 => ?_))
                have mz145 : z145.toInt = bt u0 24 := by rw [ez145, ez144]; exact bt_s24 _
                refine lv_if_ne (tgt := 27) hx hb dX11_bytesOf_20 (by decide) (fun c146 => ?_) (fun c146 => ?_)
                · have c147 : z145.toInt ≠ 0 := fun z_ => c146 (Int32.toInt_inj.mp z_)
                  have i148 : iv z145 1 255 := iv_Nl c147 iz145 (by decide)
                  refine lv_iconst (v := 1) hx hb dX11_bytesOf_27 (by decide) ?_
                  refine lv_iadd hx hb dX11_bytesOf_28 (lv_topi (fun x_ e_ => ?_))
                  obtain rfl : 2 = x_ := by rw [e_]; decide
                  refine lv_istore_n (lv' := [(1, .int 2), (2, .int 3), (0, .int u0)]) hx hb dX11_bytesOf_29 rfl hl (by decide) rfl (fun ls hl => ?_)
                  refine lv_iinc (v := 4) (lv' := [(2, .int 4), (1, .int 2), (0, .int u0)]) hx hb dX11_bytesOf_30 hl (k := 1) rfl (by decide) (by decide) rfl (fun ls hl => ?_)
                  refine lv_goto (tgt := 4) hx hb dX11_bytesOf_33 (by decide) ?_
                  refine lv_iload_n hx hb dX11_bytesOf_4 rfl (lv_at hl 0 rfl) ?_
                  refine lv_iconst (v := 4) hx hb dX11_bytesOf_5 (by decide) ?_
                  refine lv_icmp_ge (tgt := 36) hx hb dX11_bytesOf_6 (by decide) (fun c151 => ?_) (fun c151 => ?_)
                  · refine lv_iload_n hx hb dX11_bytesOf_36 rfl (lv_at hl 1 rfl) ?_
                    exact u_iret C h hr hQ (⟨⟨by decide, by decide⟩, t, o, (by have n_ : (2 : Int32).toInt = 2 := rfl; omega)⟩) (Nat.le_of_ble_eq_true rfl) (Nat.le_of_ble_eq_true rfl) dX11_bytesOf_37
                  · exact absurd c151 (by decide)
                · have c149 : z145.toInt = 0 := congrArg Int32.toInt c146
                  have i150 : iv z145 0 0 := iv_Q c149 iz145 (iv_k (x := 0) (k := 0) rfl) (by decide)
                  refine lv_iconst (v := 0) hx hb dX11_bytesOf_23 (by decide) ?_
                  refine lv_goto (tgt := 28) hx hb dX11_bytesOf_24 (by decide) ?_
                  refine lv_iadd hx hb dX11_bytesOf_28 (lv_topi (fun x_ e_ => ?_))
                  obtain rfl : 1 = x_ := by rw [e_]; decide
                  refine lv_istore_n (lv' := [(1, .int 1), (2, .int 3), (0, .int u0)]) hx hb dX11_bytesOf_29 rfl hl (by decide) rfl (fun ls hl => ?_)
                  refine lv_iinc (v := 4) (lv' := [(2, .int 4), (1, .int 1), (0, .int u0)]) hx hb dX11_bytesOf_30 hl (k := 1) rfl (by decide) (by decide) rfl (fun ls hl => ?_)
                  refine lv_goto (tgt := 4) hx hb dX11_bytesOf_33 (by decide) ?_
                  refine lv_iload_n hx hb dX11_bytesOf_4 rfl (lv_at hl 0 rfl) ?_
                  refine lv_iconst (v := 4) hx hb dX11_bytesOf_5 (by decide) ?_
                  refine lv_icmp_ge (tgt := 36) hx hb dX11_bytesOf_6 (by decide) (fun c154 => ?_) (fun c154 => ?_)
                  · refine lv_iload_n hx hb dX11_bytesOf_36 rfl (lv_at hl 1 rfl) ?_
                    exact u_iret C h hr hQ (⟨⟨by decide, by decide⟩, t, o, (by have n_ : (1 : Int32).toInt = 1 := rfl; omega)⟩) (Nat.le_of_ble_eq_true rfl) (Nat.le_of_ble_eq_true rfl) dX11_bytesOf_37
                  · exact absurd c154 (by decide)
        · have c113 : z109.toInt = 0 := congrArg Int32.toInt c110
          have i114 : iv z109 0 0 := iv_Q c113 iz109 (iv_k (x := 0) (k := 0) rfl) (by decide)
          refine lv_iconst (v := 0) hx hb dX11_bytesOf_23 (by decide) ?_
          refine lv_goto (tgt := 28) hx hb dX11_bytesOf_24 (by decide) ?_
          refine lv_iadd hx hb dX11_bytesOf_28 (lv_topi (fun x_ e_ => ?_))
          obtain rfl : 0 = x_ := by rw [e_]; decide
          refine lv_istore_n (lv' := [(1, .int 0), (2, .int 1), (0, .int u0)]) hx hb dX11_bytesOf_29 rfl hl (by decide) rfl (fun ls hl => ?_)
          refine lv_iinc (v := 2) (lv' := [(2, .int 2), (1, .int 0), (0, .int u0)]) hx hb dX11_bytesOf_30 hl (k := 1) rfl (by decide) (by decide) rfl (fun ls hl => ?_)
          refine lv_goto (tgt := 4) hx hb dX11_bytesOf_33 (by decide) ?_
          refine lv_iload_n hx hb dX11_bytesOf_4 rfl (lv_at hl 0 rfl) ?_
          refine lv_iconst (v := 4) hx hb dX11_bytesOf_5 (by decide) ?_
          refine lv_icmp_ge (tgt := 36) hx hb dX11_bytesOf_6 (by decide) (fun c157 => ?_) (fun c157 => ?_)
          · exact absurd c157 (by decide)
          · refine lv_iload_n hx hb dX11_bytesOf_9 rfl (lv_at hl 1 rfl) ?_
            refine lv_iload_n hx hb dX11_bytesOf_10 rfl (lv_at hl 2 rfl) ?_
            refine lv_bipush (v := 8) hx hb dX11_bytesOf_11 (by decide) ?_
            refine lv_iload_n hx hb dX11_bytesOf_13 rfl (lv_at hl 0 rfl) ?_
            refine lv_imul hx hb dX11_bytesOf_14 (lv_topi (fun x_ e_ => ?_))
            obtain rfl : 16 = x_ := by rw [e_]; decide
            refine lv_ishr hx hb dX11_bytesOf_15 (i_top (iv_any _) (fun z160 ez160 iz160 => ?_))
            refine lv_sipush (v := 255) hx hb dX11_bytesOf_16 (by decide) ?_
            refine lv_iand hx hb dX11_bytesOf_19 (i_top (iv_and (k := 255) rfl (by decide)) (fun z161 ez161 iz161 => ?_))
            have mz161 : z161.toInt = bt u0 16 := by rw [ez161, ez160]; exact bt_s16 _
            refine lv_if_ne (tgt := 27) hx hb dX11_bytesOf_20 (by decide) (fun c162 => ?_) (fun c162 => ?_)
            · have c163 : z161.toInt ≠ 0 := fun z_ => c162 (Int32.toInt_inj.mp z_)
              have i164 : iv z161 1 255 := iv_Nl c163 iz161 (by decide)
              refine lv_iconst (v := 1) hx hb dX11_bytesOf_27 (by decide) ?_
              refine lv_iadd hx hb dX11_bytesOf_28 (lv_topi (fun x_ e_ => ?_))
              obtain rfl : 1 = x_ := by rw [e_]; decide
              refine lv_istore_n (lv' := [(1, .int 1), (2, .int 2), (0, .int u0)]) hx hb dX11_bytesOf_29 rfl hl (by decide) rfl (fun ls hl => ?_)
              refine lv_iinc (v := 3) (lv' := [(2, .int 3), (1, .int 1), (0, .int u0)]) hx hb dX11_bytesOf_30 hl (k := 1) rfl (by decide) (by decide) rfl (fun ls hl => ?_)
              refine lv_goto (tgt := 4) hx hb dX11_bytesOf_33 (by decide) ?_
              refine lv_iload_n hx hb dX11_bytesOf_4 rfl (lv_at hl 0 rfl) ?_
              refine lv_iconst (v := 4) hx hb dX11_bytesOf_5 (by decide) ?_
              refine lv_icmp_ge (tgt := 36) hx hb dX11_bytesOf_6 (by decide) (fun c167 => ?_) (fun c167 => ?_)
              · exact absurd c167 (by decide)
              · refine lv_iload_n hx hb dX11_bytesOf_9 rfl (lv_at hl 1 rfl) ?_
                refine lv_iload_n hx hb dX11_bytesOf_10 rfl (lv_at hl 2 rfl) ?_
                refine lv_bipush (v := 8) hx hb dX11_bytesOf_11 (by decide) ?_
                refine lv_iload_n hx hb dX11_bytesOf_13 rfl (lv_at hl 0 rfl) ?_
                refine lv_imul hx hb dX11_bytesOf_14 (lv_topi (fun x_ e_ => ?_))
                obtain rfl : 24 = x_ := by rw [e_]; decide
                refine lv_ishr hx hb dX11_bytesOf_15 (i_top (iv_any _) (fun z170 ez170 iz170 => ?_))
                refine lv_sipush (v := 255) hx hb dX11_bytesOf_16 (by decide) ?_
                refine lv_iand hx hb dX11_bytesOf_19 (i_top (iv_and (k := 255) rfl (by decide)) (fun z171 ez171 iz171 => ?_))
                have mz171 : z171.toInt = bt u0 24 := by rw [ez171, ez170]; exact bt_s24 _
                refine lv_if_ne (tgt := 27) hx hb dX11_bytesOf_20 (by decide) (fun c172 => ?_) (fun c172 => ?_)
                · have c173 : z171.toInt ≠ 0 := fun z_ => c172 (Int32.toInt_inj.mp z_)
                  have i174 : iv z171 1 255 := iv_Nl c173 iz171 (by decide)
                  refine lv_iconst (v := 1) hx hb dX11_bytesOf_27 (by decide) ?_
                  refine lv_iadd hx hb dX11_bytesOf_28 (lv_topi (fun x_ e_ => ?_))
                  obtain rfl : 2 = x_ := by rw [e_]; decide
                  refine lv_istore_n (lv' := [(1, .int 2), (2, .int 3), (0, .int u0)]) hx hb dX11_bytesOf_29 rfl hl (by decide) rfl (fun ls hl => ?_)
                  refine lv_iinc (v := 4) (lv' := [(2, .int 4), (1, .int 2), (0, .int u0)]) hx hb dX11_bytesOf_30 hl (k := 1) rfl (by decide) (by decide) rfl (fun ls hl => ?_)
                  refine lv_goto (tgt := 4) hx hb dX11_bytesOf_33 (by decide) ?_
                  refine lv_iload_n hx hb dX11_bytesOf_4 rfl (lv_at hl 0 rfl) ?_
                  refine lv_iconst (v := 4) hx hb dX11_bytesOf_5 (by decide) ?_
                  refine lv_icmp_ge (tgt := 36) hx hb dX11_bytesOf_6 (by decide) (fun c177 => ?_) (fun c177 => ?_)
                  · refine lv_iload_n hx hb dX11_bytesOf_36 rfl (lv_at hl 1 rfl) ?_
                    exact u_iret C h hr hQ (⟨⟨by decide, by decide⟩, t, o, (by have n_ : (2 : Int32).toInt = 2 := rfl; omega)⟩) (Nat.le_of_ble_eq_true rfl) (Nat.le_of_ble_eq_true rfl) dX11_bytesOf_37
                  · exact absurd c177 (by decide)
                · have c175 : z171.toInt = 0 := congrArg Int32.toInt c172
                  have i176 : iv z171 0 0 := iv_Q c175 iz171 (iv_k (x := 0) (k := 0) rfl) (by decide)
                  refine lv_iconst (v := 0) hx hb dX11_bytesOf_23 (by decide) ?_
                  refine lv_goto (tgt := 28) hx hb dX11_bytesOf_24 (by decide) ?_
                  refine lv_iadd hx hb dX11_bytesOf_28 (lv_topi (fun x_ e_ => ?_))
                  obtain rfl : 1 = x_ := by rw [e_]; decide
                  refine lv_istore_n (lv' := [(1, .int 1), (2, .int 3), (0, .int u0)]) hx hb dX11_bytesOf_29 rfl hl (by decide) rfl (fun ls hl => ?_)
                  refine lv_iinc (v := 4) (lv' := [(2, .int 4), (1, .int 1), (0, .int u0)]) hx hb dX11_bytesOf_30 hl (k := 1) rfl (by decide) (by decide) rfl (fun ls hl => ?_)
                  refine lv_goto (tgt := 4) hx hb dX11_bytesOf_33 (by decide) ?_
                  refine lv_iload_n hx hb dX11_bytesOf_4 rfl (lv_at hl 0 rfl) ?_
                  refine lv_iconst (v := 4) hx hb dX11_bytesOf_5 (by decide) ?_
                  refine lv_icmp_ge (tgt := 36) hx hb dX11_bytesOf_6 (by decide) (fun c180 => ?_) (fun c180 => ?_)
                  · refine lv_iload_n hx hb dX11_bytesOf_36 rfl (lv_at hl 1 rfl) ?_
                    exact u_iret C h hr hQ (⟨⟨by decide, by decide⟩, t, o, (by have n_ : (1 : Int32).toInt = 1 := rfl; omega)⟩) (Nat.le_of_ble_eq_true rfl) (Nat.le_of_ble_eq_true rfl) dX11_bytesOf_37
                  · exact absurd c180 (by decide)
            · have c165 : z161.toInt = 0 := congrArg Int32.toInt c162
              have i166 : iv z161 0 0 := iv_Q c165 iz161 (iv_k (x := 0) (k := 0) rfl) (by decide)
              refine lv_iconst (v := 0) hx hb dX11_bytesOf_23 (by decide) ?_
              refine lv_goto (tgt := 28) hx hb dX11_bytesOf_24 (by decide) ?_
              refine lv_iadd hx hb dX11_bytesOf_28 (lv_topi (fun x_ e_ => ?_))
              obtain rfl : 0 = x_ := by rw [e_]; decide
              refine lv_istore_n (lv' := [(1, .int 0), (2, .int 2), (0, .int u0)]) hx hb dX11_bytesOf_29 rfl hl (by decide) rfl (fun ls hl => ?_)
              refine lv_iinc (v := 3) (lv' := [(2, .int 3), (1, .int 0), (0, .int u0)]) hx hb dX11_bytesOf_30 hl (k := 1) rfl (by decide) (by decide) rfl (fun ls hl => ?_)
              refine lv_goto (tgt := 4) hx hb dX11_bytesOf_33 (by decide) ?_
              refine lv_iload_n hx hb dX11_bytesOf_4 rfl (lv_at hl 0 rfl) ?_
              refine lv_iconst (v := 4) hx hb dX11_bytesOf_5 (by decide) ?_
              refine lv_icmp_ge (tgt := 36) hx hb dX11_bytesOf_6 (by decide) (fun c183 => ?_) (fun c183 => ?_)
              · exact absurd c183 (by decide)
              · refine lv_iload_n hx hb dX11_bytesOf_9 rfl (lv_at hl 1 rfl) ?_
                refine lv_iload_n hx hb dX11_bytesOf_10 rfl (lv_at hl 2 rfl) ?_
                refine lv_bipush (v := 8) hx hb dX11_bytesOf_11 (by decide) ?_
                refine lv_iload_n hx hb dX11_bytesOf_13 rfl (lv_at hl 0 rfl) ?_
                refine lv_imul hx hb dX11_bytesOf_14 (lv_topi (fun x_ e_ => ?_))
                obtain rfl : 24 = x_ := by rw [e_]; decide
                refine lv_ishr hx hb dX11_bytesOf_15 (i_top (iv_any _) (fun z186 ez186 iz186 => ?_))
                refine lv_sipush (v := 255) hx hb dX11_bytesOf_16 (by decide) ?_
                refine lv_iand hx hb dX11_bytesOf_19 (i_top (iv_and (k := 255) rfl (by decide)) (fun z187 ez187 iz187 => ?_))
                have mz187 : z187.toInt = bt u0 24 := by rw [ez187, ez186]; exact bt_s24 _
                refine lv_if_ne (tgt := 27) hx hb dX11_bytesOf_20 (by decide) (fun c188 => ?_) (fun c188 => ?_)
                · have c189 : z187.toInt ≠ 0 := fun z_ => c188 (Int32.toInt_inj.mp z_)
                  have i190 : iv z187 1 255 := iv_Nl c189 iz187 (by decide)
                  refine lv_iconst (v := 1) hx hb dX11_bytesOf_27 (by decide) ?_
                  refine lv_iadd hx hb dX11_bytesOf_28 (lv_topi (fun x_ e_ => ?_))
                  obtain rfl : 1 = x_ := by rw [e_]; decide
                  refine lv_istore_n (lv' := [(1, .int 1), (2, .int 3), (0, .int u0)]) hx hb dX11_bytesOf_29 rfl hl (by decide) rfl (fun ls hl => ?_)
                  refine lv_iinc (v := 4) (lv' := [(2, .int 4), (1, .int 1), (0, .int u0)]) hx hb dX11_bytesOf_30 hl (k := 1) rfl (by decide) (by decide) rfl (fun ls hl => ?_)
                  refine lv_goto (tgt := 4) hx hb dX11_bytesOf_33 (by decide) ?_
                  refine lv_iload_n hx hb dX11_bytesOf_4 rfl (lv_at hl 0 rfl) ?_
                  refine lv_iconst (v := 4) hx hb dX11_bytesOf_5 (by decide) ?_
                  refine lv_icmp_ge (tgt := 36) hx hb dX11_bytesOf_6 (by decide) (fun c193 => ?_) (fun c193 => ?_)
                  · refine lv_iload_n hx hb dX11_bytesOf_36 rfl (lv_at hl 1 rfl) ?_
                    exact u_iret C h hr hQ (⟨⟨by decide, by decide⟩, t, o, (by have n_ : (1 : Int32).toInt = 1 := rfl; omega)⟩) (Nat.le_of_ble_eq_true rfl) (Nat.le_of_ble_eq_true rfl) dX11_bytesOf_37
                  · exact absurd c193 (by decide)
                · have c191 : z187.toInt = 0 := congrArg Int32.toInt c188
                  have i192 : iv z187 0 0 := iv_Q c191 iz187 (iv_k (x := 0) (k := 0) rfl) (by decide)
                  refine lv_iconst (v := 0) hx hb dX11_bytesOf_23 (by decide) ?_
                  refine lv_goto (tgt := 28) hx hb dX11_bytesOf_24 (by decide) ?_
                  refine lv_iadd hx hb dX11_bytesOf_28 (lv_topi (fun x_ e_ => ?_))
                  obtain rfl : 0 = x_ := by rw [e_]; decide
                  refine lv_istore_n (lv' := [(1, .int 0), (2, .int 3), (0, .int u0)]) hx hb dX11_bytesOf_29 rfl hl (by decide) rfl (fun ls hl => ?_)
                  refine lv_iinc (v := 4) (lv' := [(2, .int 4), (1, .int 0), (0, .int u0)]) hx hb dX11_bytesOf_30 hl (k := 1) rfl (by decide) (by decide) rfl (fun ls hl => ?_)
                  refine lv_goto (tgt := 4) hx hb dX11_bytesOf_33 (by decide) ?_
                  refine lv_iload_n hx hb dX11_bytesOf_4 rfl (lv_at hl 0 rfl) ?_
                  refine lv_iconst (v := 4) hx hb dX11_bytesOf_5 (by decide) ?_
                  refine lv_icmp_ge (tgt := 36) hx hb dX11_bytesOf_6 (by decide) (fun c196 => ?_) (fun c196 => ?_)
                  · refine lv_iload_n hx hb dX11_bytesOf_36 rfl (lv_at hl 1 rfl) ?_
                    exact u_iret C h hr hQ (⟨⟨by decide, by decide⟩, t, o, (by have n_ : (0 : Int32).toInt = 0 := rfl; omega)⟩) (Nat.le_of_ble_eq_true rfl) (Nat.le_of_ble_eq_true rfl) dX11_bytesOf_37
                  · exact absurd c196 (by decide)
abbrev rm_s_X7_filledX : Room := { frames := 0, cells := 0, slots := 0, locals := 0 }
set_option maxRecDepth 100000 in
set_option maxHeartbeats 4000000 in
theorem s_X7_filledX (l : Launch) (D : va_G) (G : Nat → Nat) (b0 : Nat) (τ : Nat → Nat) (f : hM) (t : TI G 9 τ f) (u0 : Int32) (hu0 : iv u0 (-2147483648) 2147483647) : mI l yX7_filled cX7_filled 3 (.int) rm_s_X7_filledX D G b0 f [.int u0] (fun r f1 => iv r 0 4 ∧ TI G 9 τ f1 ∧ Fr [] τ f f1 ∧ (r.toInt = nb u0)) := by
  refine met2 (own := RX7) (by decide) rfl (Nat.le_of_ble_eq_true rfl) ?_
  intro p e s m args below meth c ls Q hQ C hr hini hl h
  have hl : lv_has ls 3 [(0, .int u0)] := hl
  obtain ⟨hx, hb, hml, hown, hts, hE0, hlk⟩ := id C
  have o := Fr.rf [] τ f
  have hnb : nb u0 = nbq u0 24 + nbq u0 16 + nbq u0 8 + nbq u0 0 := rfl
  have hq24 := nbq_c u0 24
  have hq16 := nbq_c u0 16
  have hq8 := nbq_c u0 8
  have hq0 := nbq_c u0 0
  refine lv_iconst (v := 0) hx hb dX7_filled_0 (by decide) ?_
  refine lv_istore_n (lv' := [(1, .int 0), (0, .int u0)]) hx hb dX7_filled_1 rfl hl (by decide) rfl (fun ls hl => ?_)
  refine lv_bipush (v := 24) hx hb dX7_filled_2 (by decide) ?_
  refine lv_istore_n (lv' := [(2, .int 24), (1, .int 0), (0, .int u0)]) hx hb dX7_filled_4 rfl hl (by decide) rfl (fun ls hl => ?_)
  refine lv_iload_n hx hb dX7_filled_5 rfl (lv_at hl 0 rfl) ?_
  refine lv_if_lt (tgt := 28) hx hb dX7_filled_6 (by decide) (fun c1 => ?_) (fun c1 => ?_)
  · exact absurd c1 (by decide)
  · refine lv_iload_n hx hb dX7_filled_9 rfl (lv_at hl 2 rfl) ?_
    refine lv_iload_n hx hb dX7_filled_10 rfl (lv_at hl 0 rfl) ?_
    refine lv_iushr hx hb dX7_filled_11 rfl (i_top (iv_any _) (fun z4 ez4 iz4 => ?_))
    refine lv_sipush (v := 255) hx hb dX7_filled_12 (by decide) ?_
    refine lv_iand hx hb dX7_filled_15 (i_top (iv_and (k := 255) rfl (by decide)) (fun z5 ez5 iz5 => ?_))
    have mz5 : z5.toInt = bt u0 24 := by rw [ez5, ez4]; exact bt_u24 _
    refine lv_if_eq (tgt := 22) hx hb dX7_filled_16 (by decide) (fun c6 => ?_) (fun c6 => ?_)
    · have c7 : z5.toInt = 0 := congrArg Int32.toInt c6
      have i8 : iv z5 0 0 := iv_Q c7 iz5 (iv_k (x := 0) (k := 0) rfl) (by decide)
      refine lv_iinc (v := 16) (lv' := [(2, .int 16), (1, .int 0), (0, .int u0)]) hx hb dX7_filled_22 hl (k := 0) rfl (by decide) (by decide) rfl (fun ls hl => ?_)
      refine lv_goto (tgt := 5) hx hb dX7_filled_25 (by decide) ?_
      refine lv_iload_n hx hb dX7_filled_5 rfl (lv_at hl 0 rfl) ?_
      refine lv_if_lt (tgt := 28) hx hb dX7_filled_6 (by decide) (fun c11 => ?_) (fun c11 => ?_)
      · exact absurd c11 (by decide)
      · refine lv_iload_n hx hb dX7_filled_9 rfl (lv_at hl 2 rfl) ?_
        refine lv_iload_n hx hb dX7_filled_10 rfl (lv_at hl 0 rfl) ?_
        refine lv_iushr hx hb dX7_filled_11 rfl (i_top (iv_any _) (fun z14 ez14 iz14 => ?_))
        refine lv_sipush (v := 255) hx hb dX7_filled_12 (by decide) ?_
        refine lv_iand hx hb dX7_filled_15 (i_top (iv_and (k := 255) rfl (by decide)) (fun z15 ez15 iz15 => ?_))
        have mz15 : z15.toInt = bt u0 16 := by rw [ez15, ez14]; exact bt_u16 _
        refine lv_if_eq (tgt := 22) hx hb dX7_filled_16 (by decide) (fun c16 => ?_) (fun c16 => ?_)
        · have c17 : z15.toInt = 0 := congrArg Int32.toInt c16
          have i18 : iv z15 0 0 := iv_Q c17 iz15 (iv_k (x := 0) (k := 0) rfl) (by decide)
          refine lv_iinc (v := 8) (lv' := [(2, .int 8), (1, .int 0), (0, .int u0)]) hx hb dX7_filled_22 hl (k := 0) rfl (by decide) (by decide) rfl (fun ls hl => ?_)
          refine lv_goto (tgt := 5) hx hb dX7_filled_25 (by decide) ?_
          refine lv_iload_n hx hb dX7_filled_5 rfl (lv_at hl 0 rfl) ?_
          refine lv_if_lt (tgt := 28) hx hb dX7_filled_6 (by decide) (fun c21 => ?_) (fun c21 => ?_)
          · exact absurd c21 (by decide)
          · refine lv_iload_n hx hb dX7_filled_9 rfl (lv_at hl 2 rfl) ?_
            refine lv_iload_n hx hb dX7_filled_10 rfl (lv_at hl 0 rfl) ?_
            refine lv_iushr hx hb dX7_filled_11 rfl (i_top (iv_any _) (fun z24 ez24 iz24 => ?_))
            refine lv_sipush (v := 255) hx hb dX7_filled_12 (by decide) ?_
            refine lv_iand hx hb dX7_filled_15 (i_top (iv_and (k := 255) rfl (by decide)) (fun z25 ez25 iz25 => ?_))
            have mz25 : z25.toInt = bt u0 8 := by rw [ez25, ez24]; exact bt_u8 _
            refine lv_if_eq (tgt := 22) hx hb dX7_filled_16 (by decide) (fun c26 => ?_) (fun c26 => ?_)
            · have c27 : z25.toInt = 0 := congrArg Int32.toInt c26
              have i28 : iv z25 0 0 := iv_Q c27 iz25 (iv_k (x := 0) (k := 0) rfl) (by decide)
              refine lv_iinc (v := 0) (lv' := [(2, .int 0), (1, .int 0), (0, .int u0)]) hx hb dX7_filled_22 hl (k := 0) rfl (by decide) (by decide) rfl (fun ls hl => ?_)
              refine lv_goto (tgt := 5) hx hb dX7_filled_25 (by decide) ?_
              refine lv_iload_n hx hb dX7_filled_5 rfl (lv_at hl 0 rfl) ?_
              refine lv_if_lt (tgt := 28) hx hb dX7_filled_6 (by decide) (fun c31 => ?_) (fun c31 => ?_)
              · exact absurd c31 (by decide)
              · refine lv_iload_n hx hb dX7_filled_9 rfl (lv_at hl 2 rfl) ?_
                refine lv_iload_n hx hb dX7_filled_10 rfl (lv_at hl 0 rfl) ?_
                refine lv_iushr hx hb dX7_filled_11 rfl (i_top (iv_any _) (fun z34 ez34 iz34 => ?_))
                refine lv_sipush (v := 255) hx hb dX7_filled_12 (by decide) ?_
                refine lv_iand hx hb dX7_filled_15 (i_top (iv_and (k := 255) rfl (by decide)) (fun z35 ez35 iz35 => ?_))
                have mz35 : z35.toInt = bt u0 0 := by rw [ez35, ez34]; exact bt_u0 _
                refine lv_if_eq (tgt := 22) hx hb dX7_filled_16 (by decide) (fun c36 => ?_) (fun c36 => ?_)
                · have c37 : z35.toInt = 0 := congrArg Int32.toInt c36
                  have i38 : iv z35 0 0 := iv_Q c37 iz35 (iv_k (x := 0) (k := 0) rfl) (by decide)
                  refine lv_iinc (v := -8) (lv' := [(2, .int (-8)), (1, .int 0), (0, .int u0)]) hx hb dX7_filled_22 hl (k := 0) rfl (by decide) (by decide) rfl (fun ls hl => ?_)
                  refine lv_goto (tgt := 5) hx hb dX7_filled_25 (by decide) ?_
                  refine lv_iload_n hx hb dX7_filled_5 rfl (lv_at hl 0 rfl) ?_
                  refine lv_if_lt (tgt := 28) hx hb dX7_filled_6 (by decide) (fun c41 => ?_) (fun c41 => ?_)
                  · refine lv_iload_n hx hb dX7_filled_28 rfl (lv_at hl 1 rfl) ?_
                    exact u_iret C h hr hQ (⟨⟨by decide, by decide⟩, t, o, (by have n_ : (0 : Int32).toInt = 0 := rfl; omega)⟩) (Nat.le_of_ble_eq_true rfl) (Nat.le_of_ble_eq_true rfl) dX7_filled_29
                  · exact absurd c41 (by decide)
                · have c39 : z35.toInt ≠ 0 := fun z_ => c36 (Int32.toInt_inj.mp z_)
                  have i40 : iv z35 1 255 := iv_Nl c39 iz35 (by decide)
                  refine lv_iinc (v := 1) (lv' := [(1, .int 1), (2, .int 0), (0, .int u0)]) hx hb dX7_filled_19 hl (k := 1) rfl (by decide) (by decide) rfl (fun ls hl => ?_)
                  refine lv_iinc (v := -8) (lv' := [(2, .int (-8)), (1, .int 1), (0, .int u0)]) hx hb dX7_filled_22 hl (k := 1) rfl (by decide) (by decide) rfl (fun ls hl => ?_)
                  refine lv_goto (tgt := 5) hx hb dX7_filled_25 (by decide) ?_
                  refine lv_iload_n hx hb dX7_filled_5 rfl (lv_at hl 0 rfl) ?_
                  refine lv_if_lt (tgt := 28) hx hb dX7_filled_6 (by decide) (fun c44 => ?_) (fun c44 => ?_)
                  · refine lv_iload_n hx hb dX7_filled_28 rfl (lv_at hl 1 rfl) ?_
                    exact u_iret C h hr hQ (⟨⟨by decide, by decide⟩, t, o, (by have n_ : (1 : Int32).toInt = 1 := rfl; omega)⟩) (Nat.le_of_ble_eq_true rfl) (Nat.le_of_ble_eq_true rfl) dX7_filled_29
                  · exact absurd c44 (by decide)
            · have c29 : z25.toInt ≠ 0 := fun z_ => c26 (Int32.toInt_inj.mp z_)
              have i30 : iv z25 1 255 := iv_Nl c29 iz25 (by decide)
              refine lv_iinc (v := 1) (lv' := [(1, .int 1), (2, .int 8), (0, .int u0)]) hx hb dX7_filled_19 hl (k := 1) rfl (by decide) (by decide) rfl (fun ls hl => ?_)
              refine lv_iinc (v := 0) (lv' := [(2, .int 0), (1, .int 1), (0, .int u0)]) hx hb dX7_filled_22 hl (k := 1) rfl (by decide) (by decide) rfl (fun ls hl => ?_)
              refine lv_goto (tgt := 5) hx hb dX7_filled_25 (by decide) ?_
              refine lv_iload_n hx hb dX7_filled_5 rfl (lv_at hl 0 rfl) ?_
              refine lv_if_lt (tgt := 28) hx hb dX7_filled_6 (by decide) (fun c47 => ?_) (fun c47 => ?_)
              · exact absurd c47 (by decide)
              · refine lv_iload_n hx hb dX7_filled_9 rfl (lv_at hl 2 rfl) ?_
                refine lv_iload_n hx hb dX7_filled_10 rfl (lv_at hl 0 rfl) ?_
                refine lv_iushr hx hb dX7_filled_11 rfl (i_top (iv_any _) (fun z50 ez50 iz50 => ?_))
                refine lv_sipush (v := 255) hx hb dX7_filled_12 (by decide) ?_
                refine lv_iand hx hb dX7_filled_15 (i_top (iv_and (k := 255) rfl (by decide)) (fun z51 ez51 iz51 => ?_))
                have mz51 : z51.toInt = bt u0 0 := by rw [ez51, ez50]; exact bt_u0 _
                refine lv_if_eq (tgt := 22) hx hb dX7_filled_16 (by decide) (fun c52 => ?_) (fun c52 => ?_)
                · have c53 : z51.toInt = 0 := congrArg Int32.toInt c52
                  have i54 : iv z51 0 0 := iv_Q c53 iz51 (iv_k (x := 0) (k := 0) rfl) (by decide)
                  refine lv_iinc (v := -8) (lv' := [(2, .int (-8)), (1, .int 1), (0, .int u0)]) hx hb dX7_filled_22 hl (k := 0) rfl (by decide) (by decide) rfl (fun ls hl => ?_)
                  refine lv_goto (tgt := 5) hx hb dX7_filled_25 (by decide) ?_
                  refine lv_iload_n hx hb dX7_filled_5 rfl (lv_at hl 0 rfl) ?_
                  refine lv_if_lt (tgt := 28) hx hb dX7_filled_6 (by decide) (fun c57 => ?_) (fun c57 => ?_)
                  · refine lv_iload_n hx hb dX7_filled_28 rfl (lv_at hl 1 rfl) ?_
                    exact u_iret C h hr hQ (⟨⟨by decide, by decide⟩, t, o, (by have n_ : (1 : Int32).toInt = 1 := rfl; omega)⟩) (Nat.le_of_ble_eq_true rfl) (Nat.le_of_ble_eq_true rfl) dX7_filled_29
                  · exact absurd c57 (by decide)
                · have c55 : z51.toInt ≠ 0 := fun z_ => c52 (Int32.toInt_inj.mp z_)
                  have i56 : iv z51 1 255 := iv_Nl c55 iz51 (by decide)
                  refine lv_iinc (v := 2) (lv' := [(1, .int 2), (2, .int 0), (0, .int u0)]) hx hb dX7_filled_19 hl (k := 1) rfl (by decide) (by decide) rfl (fun ls hl => ?_)
                  refine lv_iinc (v := -8) (lv' := [(2, .int (-8)), (1, .int 2), (0, .int u0)]) hx hb dX7_filled_22 hl (k := 1) rfl (by decide) (by decide) rfl (fun ls hl => ?_)
                  refine lv_goto (tgt := 5) hx hb dX7_filled_25 (by decide) ?_
                  refine lv_iload_n hx hb dX7_filled_5 rfl (lv_at hl 0 rfl) ?_
                  refine lv_if_lt (tgt := 28) hx hb dX7_filled_6 (by decide) (fun c60 => ?_) (fun c60 => ?_)
                  · refine lv_iload_n hx hb dX7_filled_28 rfl (lv_at hl 1 rfl) ?_
                    exact u_iret C h hr hQ (⟨⟨by decide, by decide⟩, t, o, (by have n_ : (2 : Int32).toInt = 2 := rfl; omega)⟩) (Nat.le_of_ble_eq_true rfl) (Nat.le_of_ble_eq_true rfl) dX7_filled_29
                  · exact absurd c60 (by decide)
        · have c19 : z15.toInt ≠ 0 := fun z_ => c16 (Int32.toInt_inj.mp z_)
          have i20 : iv z15 1 255 := iv_Nl c19 iz15 (by decide)
          refine lv_iinc (v := 1) (lv' := [(1, .int 1), (2, .int 16), (0, .int u0)]) hx hb dX7_filled_19 hl (k := 1) rfl (by decide) (by decide) rfl (fun ls hl => ?_)
          refine lv_iinc (v := 8) (lv' := [(2, .int 8), (1, .int 1), (0, .int u0)]) hx hb dX7_filled_22 hl (k := 1) rfl (by decide) (by decide) rfl (fun ls hl => ?_)
          refine lv_goto (tgt := 5) hx hb dX7_filled_25 (by decide) ?_
          refine lv_iload_n hx hb dX7_filled_5 rfl (lv_at hl 0 rfl) ?_
          refine lv_if_lt (tgt := 28) hx hb dX7_filled_6 (by decide) (fun c63 => ?_) (fun c63 => ?_)
          · exact absurd c63 (by decide)
          · refine lv_iload_n hx hb dX7_filled_9 rfl (lv_at hl 2 rfl) ?_
            refine lv_iload_n hx hb dX7_filled_10 rfl (lv_at hl 0 rfl) ?_
            refine lv_iushr hx hb dX7_filled_11 rfl (i_top (iv_any _) (fun z66 ez66 iz66 => ?_))
            refine lv_sipush (v := 255) hx hb dX7_filled_12 (by decide) ?_
            refine lv_iand hx hb dX7_filled_15 (i_top (iv_and (k := 255) rfl (by decide)) (fun z67 ez67 iz67 => ?_))
            have mz67 : z67.toInt = bt u0 8 := by rw [ez67, ez66]; exact bt_u8 _
            refine lv_if_eq (tgt := 22) hx hb dX7_filled_16 (by decide) (fun c68 => ?_) (fun c68 => ?_)
            · have c69 : z67.toInt = 0 := congrArg Int32.toInt c68
              have i70 : iv z67 0 0 := iv_Q c69 iz67 (iv_k (x := 0) (k := 0) rfl) (by decide)
              refine lv_iinc (v := 0) (lv' := [(2, .int 0), (1, .int 1), (0, .int u0)]) hx hb dX7_filled_22 hl (k := 0) rfl (by decide) (by decide) rfl (fun ls hl => ?_)
              refine lv_goto (tgt := 5) hx hb dX7_filled_25 (by decide) ?_
              refine lv_iload_n hx hb dX7_filled_5 rfl (lv_at hl 0 rfl) ?_
              refine lv_if_lt (tgt := 28) hx hb dX7_filled_6 (by decide) (fun c73 => ?_) (fun c73 => ?_)
              · exact absurd c73 (by decide)
              · refine lv_iload_n hx hb dX7_filled_9 rfl (lv_at hl 2 rfl) ?_
                refine lv_iload_n hx hb dX7_filled_10 rfl (lv_at hl 0 rfl) ?_
                refine lv_iushr hx hb dX7_filled_11 rfl (i_top (iv_any _) (fun z76 ez76 iz76 => ?_))
                refine lv_sipush (v := 255) hx hb dX7_filled_12 (by decide) ?_
                refine lv_iand hx hb dX7_filled_15 (i_top (iv_and (k := 255) rfl (by decide)) (fun z77 ez77 iz77 => ?_))
                have mz77 : z77.toInt = bt u0 0 := by rw [ez77, ez76]; exact bt_u0 _
                refine lv_if_eq (tgt := 22) hx hb dX7_filled_16 (by decide) (fun c78 => ?_) (fun c78 => ?_)
                · have c79 : z77.toInt = 0 := congrArg Int32.toInt c78
                  have i80 : iv z77 0 0 := iv_Q c79 iz77 (iv_k (x := 0) (k := 0) rfl) (by decide)
                  refine lv_iinc (v := -8) (lv' := [(2, .int (-8)), (1, .int 1), (0, .int u0)]) hx hb dX7_filled_22 hl (k := 0) rfl (by decide) (by decide) rfl (fun ls hl => ?_)
                  refine lv_goto (tgt := 5) hx hb dX7_filled_25 (by decide) ?_
                  refine lv_iload_n hx hb dX7_filled_5 rfl (lv_at hl 0 rfl) ?_
                  refine lv_if_lt (tgt := 28) hx hb dX7_filled_6 (by decide) (fun c83 => ?_) (fun c83 => ?_)
                  · refine lv_iload_n hx hb dX7_filled_28 rfl (lv_at hl 1 rfl) ?_
                    exact u_iret C h hr hQ (⟨⟨by decide, by decide⟩, t, o, (by have n_ : (1 : Int32).toInt = 1 := rfl; omega)⟩) (Nat.le_of_ble_eq_true rfl) (Nat.le_of_ble_eq_true rfl) dX7_filled_29
                  · exact absurd c83 (by decide)
                · have c81 : z77.toInt ≠ 0 := fun z_ => c78 (Int32.toInt_inj.mp z_)
                  have i82 : iv z77 1 255 := iv_Nl c81 iz77 (by decide)
                  refine lv_iinc (v := 2) (lv' := [(1, .int 2), (2, .int 0), (0, .int u0)]) hx hb dX7_filled_19 hl (k := 1) rfl (by decide) (by decide) rfl (fun ls hl => ?_)
                  refine lv_iinc (v := -8) (lv' := [(2, .int (-8)), (1, .int 2), (0, .int u0)]) hx hb dX7_filled_22 hl (k := 1) rfl (by decide) (by decide) rfl (fun ls hl => ?_)
                  refine lv_goto (tgt := 5) hx hb dX7_filled_25 (by decide) ?_
                  refine lv_iload_n hx hb dX7_filled_5 rfl (lv_at hl 0 rfl) ?_
                  refine lv_if_lt (tgt := 28) hx hb dX7_filled_6 (by decide) (fun c86 => ?_) (fun c86 => ?_)
                  · refine lv_iload_n hx hb dX7_filled_28 rfl (lv_at hl 1 rfl) ?_
                    exact u_iret C h hr hQ (⟨⟨by decide, by decide⟩, t, o, (by have n_ : (2 : Int32).toInt = 2 := rfl; omega)⟩) (Nat.le_of_ble_eq_true rfl) (Nat.le_of_ble_eq_true rfl) dX7_filled_29
                  · exact absurd c86 (by decide)
            · have c71 : z67.toInt ≠ 0 := fun z_ => c68 (Int32.toInt_inj.mp z_)
              have i72 : iv z67 1 255 := iv_Nl c71 iz67 (by decide)
              refine lv_iinc (v := 2) (lv' := [(1, .int 2), (2, .int 8), (0, .int u0)]) hx hb dX7_filled_19 hl (k := 1) rfl (by decide) (by decide) rfl (fun ls hl => ?_)
              refine lv_iinc (v := 0) (lv' := [(2, .int 0), (1, .int 2), (0, .int u0)]) hx hb dX7_filled_22 hl (k := 1) rfl (by decide) (by decide) rfl (fun ls hl => ?_)
              refine lv_goto (tgt := 5) hx hb dX7_filled_25 (by decide) ?_
              refine lv_iload_n hx hb dX7_filled_5 rfl (lv_at hl 0 rfl) ?_
              refine lv_if_lt (tgt := 28) hx hb dX7_filled_6 (by decide) (fun c89 => ?_) (fun c89 => ?_)
              · exact absurd c89 (by decide)
              · refine lv_iload_n hx hb dX7_filled_9 rfl (lv_at hl 2 rfl) ?_
                refine lv_iload_n hx hb dX7_filled_10 rfl (lv_at hl 0 rfl) ?_
                refine lv_iushr hx hb dX7_filled_11 rfl (i_top (iv_any _) (fun z92 ez92 iz92 => ?_))
                refine lv_sipush (v := 255) hx hb dX7_filled_12 (by decide) ?_
                refine lv_iand hx hb dX7_filled_15 (i_top (iv_and (k := 255) rfl (by decide)) (fun z93 ez93 iz93 => ?_))
                have mz93 : z93.toInt = bt u0 0 := by rw [ez93, ez92]; exact bt_u0 _
                refine lv_if_eq (tgt := 22) hx hb dX7_filled_16 (by decide) (fun c94 => ?_) (fun c94 => ?_)
                · have c95 : z93.toInt = 0 := congrArg Int32.toInt c94
                  have i96 : iv z93 0 0 := iv_Q c95 iz93 (iv_k (x := 0) (k := 0) rfl) (by decide)
                  refine lv_iinc (v := -8) (lv' := [(2, .int (-8)), (1, .int 2), (0, .int u0)]) hx hb dX7_filled_22 hl (k := 0) rfl (by decide) (by decide) rfl (fun ls hl => ?_)
                  refine lv_goto (tgt := 5) hx hb dX7_filled_25 (by decide) ?_
                  refine lv_iload_n hx hb dX7_filled_5 rfl (lv_at hl 0 rfl) ?_
                  refine lv_if_lt (tgt := 28) hx hb dX7_filled_6 (by decide) (fun c99 => ?_) (fun c99 => ?_)
                  · refine lv_iload_n hx hb dX7_filled_28 rfl (lv_at hl 1 rfl) ?_
                    exact u_iret C h hr hQ (⟨⟨by decide, by decide⟩, t, o, (by have n_ : (2 : Int32).toInt = 2 := rfl; omega)⟩) (Nat.le_of_ble_eq_true rfl) (Nat.le_of_ble_eq_true rfl) dX7_filled_29
                  · exact absurd c99 (by decide)
                · have c97 : z93.toInt ≠ 0 := fun z_ => c94 (Int32.toInt_inj.mp z_)
                  have i98 : iv z93 1 255 := iv_Nl c97 iz93 (by decide)
                  refine lv_iinc (v := 3) (lv' := [(1, .int 3), (2, .int 0), (0, .int u0)]) hx hb dX7_filled_19 hl (k := 1) rfl (by decide) (by decide) rfl (fun ls hl => ?_)
                  refine lv_iinc (v := -8) (lv' := [(2, .int (-8)), (1, .int 3), (0, .int u0)]) hx hb dX7_filled_22 hl (k := 1) rfl (by decide) (by decide) rfl (fun ls hl => ?_)
                  refine lv_goto (tgt := 5) hx hb dX7_filled_25 (by decide) ?_
                  refine lv_iload_n hx hb dX7_filled_5 rfl (lv_at hl 0 rfl) ?_
                  refine lv_if_lt (tgt := 28) hx hb dX7_filled_6 (by decide) (fun c102 => ?_) (fun c102 => ?_)
                  · refine lv_iload_n hx hb dX7_filled_28 rfl (lv_at hl 1 rfl) ?_
                    exact u_iret C h hr hQ (⟨⟨by decide, by decide⟩, t, o, (by have n_ : (3 : Int32).toInt = 3 := rfl; omega)⟩) (Nat.le_of_ble_eq_true rfl) (Nat.le_of_ble_eq_true rfl) dX7_filled_29
                  · exact absurd c102 (by decide)
    · have c9 : z5.toInt ≠ 0 := fun z_ => c6 (Int32.toInt_inj.mp z_)
      have i10 : iv z5 1 255 := iv_Nl c9 iz5 (by decide)
      refine lv_iinc (v := 1) (lv' := [(1, .int 1), (2, .int 24), (0, .int u0)]) hx hb dX7_filled_19 hl (k := 1) rfl (by decide) (by decide) rfl (fun ls hl => ?_)
      refine lv_iinc (v := 16) (lv' := [(2, .int 16), (1, .int 1), (0, .int u0)]) hx hb dX7_filled_22 hl (k := 1) rfl (by decide) (by decide) rfl (fun ls hl => ?_)
      refine lv_goto (tgt := 5) hx hb dX7_filled_25 (by decide) ?_
      refine lv_iload_n hx hb dX7_filled_5 rfl (lv_at hl 0 rfl) ?_
      refine lv_if_lt (tgt := 28) hx hb dX7_filled_6 (by decide) (fun c105 => ?_) (fun c105 => ?_)
      · exact absurd c105 (by decide)
      · refine lv_iload_n hx hb dX7_filled_9 rfl (lv_at hl 2 rfl) ?_
        refine lv_iload_n hx hb dX7_filled_10 rfl (lv_at hl 0 rfl) ?_
        refine lv_iushr hx hb dX7_filled_11 rfl (i_top (iv_any _) (fun z108 ez108 iz108 => ?_))
        refine lv_sipush (v := 255) hx hb dX7_filled_12 (by decide) ?_
        refine lv_iand hx hb dX7_filled_15 (i_top (iv_and (k := 255) rfl (by decide)) (fun z109 ez109 iz109 => ?_))
        have mz109 : z109.toInt = bt u0 16 := by rw [ez109, ez108]; exact bt_u16 _
        refine lv_if_eq (tgt := 22) hx hb dX7_filled_16 (by decide) (fun c110 => ?_) (fun c110 => ?_)
        · have c111 : z109.toInt = 0 := congrArg Int32.toInt c110
          have i112 : iv z109 0 0 := iv_Q c111 iz109 (iv_k (x := 0) (k := 0) rfl) (by decide)
          refine lv_iinc (v := 8) (lv' := [(2, .int 8), (1, .int 1), (0, .int u0)]) hx hb dX7_filled_22 hl (k := 0) rfl (by decide) (by decide) rfl (fun ls hl => ?_)
          refine lv_goto (tgt := 5) hx hb dX7_filled_25 (by decide) ?_
          refine lv_iload_n hx hb dX7_filled_5 rfl (lv_at hl 0 rfl) ?_
          refine lv_if_lt (tgt := 28) hx hb dX7_filled_6 (by decide) (fun c115 => ?_) (fun c115 => ?_)
          · exact absurd c115 (by decide)
          · refine lv_iload_n hx hb dX7_filled_9 rfl (lv_at hl 2 rfl) ?_
            refine lv_iload_n hx hb dX7_filled_10 rfl (lv_at hl 0 rfl) ?_
            refine lv_iushr hx hb dX7_filled_11 rfl (i_top (iv_any _) (fun z118 ez118 iz118 => ?_))
            refine lv_sipush (v := 255) hx hb dX7_filled_12 (by decide) ?_
            refine lv_iand hx hb dX7_filled_15 (i_top (iv_and (k := 255) rfl (by decide)) (fun z119 ez119 iz119 => ?_))
            have mz119 : z119.toInt = bt u0 8 := by rw [ez119, ez118]; exact bt_u8 _
            refine lv_if_eq (tgt := 22) hx hb dX7_filled_16 (by decide) (fun c120 => ?_) (fun c120 => ?_)
            · have c121 : z119.toInt = 0 := congrArg Int32.toInt c120
              have i122 : iv z119 0 0 := iv_Q c121 iz119 (iv_k (x := 0) (k := 0) rfl) (by decide)
              refine lv_iinc (v := 0) (lv' := [(2, .int 0), (1, .int 1), (0, .int u0)]) hx hb dX7_filled_22 hl (k := 0) rfl (by decide) (by decide) rfl (fun ls hl => ?_)
              refine lv_goto (tgt := 5) hx hb dX7_filled_25 (by decide) ?_
              refine lv_iload_n hx hb dX7_filled_5 rfl (lv_at hl 0 rfl) ?_
              refine lv_if_lt (tgt := 28) hx hb dX7_filled_6 (by decide) (fun c125 => ?_) (fun c125 => ?_)
              · exact absurd c125 (by decide)
              · refine lv_iload_n hx hb dX7_filled_9 rfl (lv_at hl 2 rfl) ?_
                refine lv_iload_n hx hb dX7_filled_10 rfl (lv_at hl 0 rfl) ?_
                refine lv_iushr hx hb dX7_filled_11 rfl (i_top (iv_any _) (fun z128 ez128 iz128 => ?_))
                refine lv_sipush (v := 255) hx hb dX7_filled_12 (by decide) ?_
                refine lv_iand hx hb dX7_filled_15 (i_top (iv_and (k := 255) rfl (by decide)) (fun z129 ez129 iz129 => ?_))
                have mz129 : z129.toInt = bt u0 0 := by rw [ez129, ez128]; exact bt_u0 _
                refine lv_if_eq (tgt := 22) hx hb dX7_filled_16 (by decide) (fun c130 => ?_) (fun c130 => ?_)
                · have c131 : z129.toInt = 0 := congrArg Int32.toInt c130
                  have i132 : iv z129 0 0 := iv_Q c131 iz129 (iv_k (x := 0) (k := 0) rfl) (by decide)
                  refine lv_iinc (v := -8) (lv' := [(2, .int (-8)), (1, .int 1), (0, .int u0)]) hx hb dX7_filled_22 hl (k := 0) rfl (by decide) (by decide) rfl (fun ls hl => ?_)
                  refine lv_goto (tgt := 5) hx hb dX7_filled_25 (by decide) ?_
                  refine lv_iload_n hx hb dX7_filled_5 rfl (lv_at hl 0 rfl) ?_
                  refine lv_if_lt (tgt := 28) hx hb dX7_filled_6 (by decide) (fun c135 => ?_) (fun c135 => ?_)
                  · refine lv_iload_n hx hb dX7_filled_28 rfl (lv_at hl 1 rfl) ?_
                    exact u_iret C h hr hQ (⟨⟨by decide, by decide⟩, t, o, (by have n_ : (1 : Int32).toInt = 1 := rfl; omega)⟩) (Nat.le_of_ble_eq_true rfl) (Nat.le_of_ble_eq_true rfl) dX7_filled_29
                  · exact absurd c135 (by decide)
                · have c133 : z129.toInt ≠ 0 := fun z_ => c130 (Int32.toInt_inj.mp z_)
                  have i134 : iv z129 1 255 := iv_Nl c133 iz129 (by decide)
                  refine lv_iinc (v := 2) (lv' := [(1, .int 2), (2, .int 0), (0, .int u0)]) hx hb dX7_filled_19 hl (k := 1) rfl (by decide) (by decide) rfl (fun ls hl => ?_)
                  refine lv_iinc (v := -8) (lv' := [(2, .int (-8)), (1, .int 2), (0, .int u0)]) hx hb dX7_filled_22 hl (k := 1) rfl (by decide) (by decide) rfl (fun ls hl => ?_)
                  refine lv_goto (tgt := 5) hx hb dX7_filled_25 (by decide) ?_
                  refine lv_iload_n hx hb dX7_filled_5 rfl (lv_at hl 0 rfl) ?_
                  refine lv_if_lt (tgt := 28) hx hb dX7_filled_6 (by decide) (fun c138 => ?_) (fun c138 => ?_)
                  · refine lv_iload_n hx hb dX7_filled_28 rfl (lv_at hl 1 rfl) ?_
                    exact u_iret C h hr hQ (⟨⟨by decide, by decide⟩, t, o, (by have n_ : (2 : Int32).toInt = 2 := rfl; omega)⟩) (Nat.le_of_ble_eq_true rfl) (Nat.le_of_ble_eq_true rfl) dX7_filled_29
                  · exact absurd c138 (by decide)
            · have c123 : z119.toInt ≠ 0 := fun z_ => c120 (Int32.toInt_inj.mp z_)
              have i124 : iv z119 1 255 := iv_Nl c123 iz119 (by decide)
              refine lv_iinc (v := 2) (lv' := [(1, .int 2), (2, .int 8), (0, .int u0)]) hx hb dX7_filled_19 hl (k := 1) rfl (by decide) (by decide) rfl (fun ls hl => ?_)
              refine lv_iinc (v := 0) (lv' := [(2, .int 0), (1, .int 2), (0, .int u0)]) hx hb dX7_filled_22 hl (k := 1) rfl (by decide) (by decide) rfl (fun ls hl => ?_)
              refine lv_goto (tgt := 5) hx hb dX7_filled_25 (by decide) ?_
              refine lv_iload_n hx hb dX7_filled_5 rfl (lv_at hl 0 rfl) ?_
              refine lv_if_lt (tgt := 28) hx hb dX7_filled_6 (by decide) (fun c141 => ?_) (fun c141 => ?_)
              · exact absurd c141 (by decide)
              · refine lv_iload_n hx hb dX7_filled_9 rfl (lv_at hl 2 rfl) ?_
                refine lv_iload_n hx hb dX7_filled_10 rfl (lv_at hl 0 rfl) ?_
                refine lv_iushr hx hb dX7_filled_11 rfl (i_top (iv_any _) (fun z144 ez144 iz144 => ?_))
                refine lv_sipush (v := 255) hx hb dX7_filled_12 (by decide) ?_
                refine lv_iand hx hb dX7_filled_15 (i_top (iv_and (k := 255) rfl (by decide)) (fun z145 ez145 iz145 => ?_))
                have mz145 : z145.toInt = bt u0 0 := by rw [ez145, ez144]; exact bt_u0 _
                refine lv_if_eq (tgt := 22) hx hb dX7_filled_16 (by decide) (fun c146 => ?_) (fun c146 => ?_)
                · have c147 : z145.toInt = 0 := congrArg Int32.toInt c146
                  have i148 : iv z145 0 0 := iv_Q c147 iz145 (iv_k (x := 0) (k := 0) rfl) (by decide)
                  refine lv_iinc (v := -8) (lv' := [(2, .int (-8)), (1, .int 2), (0, .int u0)]) hx hb dX7_filled_22 hl (k := 0) rfl (by decide) (by decide) rfl (fun ls hl => ?_)
                  refine lv_goto (tgt := 5) hx hb dX7_filled_25 (by decide) ?_
                  refine lv_iload_n hx hb dX7_filled_5 rfl (lv_at hl 0 rfl) ?_
                  refine lv_if_lt (tgt := 28) hx hb dX7_filled_6 (by decide) (fun c151 => ?_) (fun c151 => ?_)
                  · refine lv_iload_n hx hb dX7_filled_28 rfl (lv_at hl 1 rfl) ?_
                    exact u_iret C h hr hQ (⟨⟨by decide, by decide⟩, t, o, (by have n_ : (2 : Int32).toInt = 2 := rfl; omega)⟩) (Nat.le_of_ble_eq_true rfl) (Nat.le_of_ble_eq_true rfl) dX7_filled_29
                  · exact absurd c151 (by decide)
                · have c149 : z145.toInt ≠ 0 := fun z_ => c146 (Int32.toInt_inj.mp z_)
                  have i150 : iv z145 1 255 := iv_Nl c149 iz145 (by decide)
                  refine lv_iinc (v := 3) (lv' := [(1, .int 3), (2, .int 0), (0, .int u0)]) hx hb dX7_filled_19 hl (k := 1) rfl (by decide) (by decide) rfl (fun ls hl => ?_)
                  refine lv_iinc (v := -8) (lv' := [(2, .int (-8)), (1, .int 3), (0, .int u0)]) hx hb dX7_filled_22 hl (k := 1) rfl (by decide) (by decide) rfl (fun ls hl => ?_)
                  refine lv_goto (tgt := 5) hx hb dX7_filled_25 (by decide) ?_
                  refine lv_iload_n hx hb dX7_filled_5 rfl (lv_at hl 0 rfl) ?_
                  refine lv_if_lt (tgt := 28) hx hb dX7_filled_6 (by decide) (fun c154 => ?_) (fun c154 => ?_)
                  · refine lv_iload_n hx hb dX7_filled_28 rfl (lv_at hl 1 rfl) ?_
                    exact u_iret C h hr hQ (⟨⟨by decide, by decide⟩, t, o, (by have n_ : (3 : Int32).toInt = 3 := rfl; omega)⟩) (Nat.le_of_ble_eq_true rfl) (Nat.le_of_ble_eq_true rfl) dX7_filled_29
                  · exact absurd c154 (by decide)
        · have c113 : z109.toInt ≠ 0 := fun z_ => c110 (Int32.toInt_inj.mp z_)
          have i114 : iv z109 1 255 := iv_Nl c113 iz109 (by decide)
          refine lv_iinc (v := 2) (lv' := [(1, .int 2), (2, .int 16), (0, .int u0)]) hx hb dX7_filled_19 hl (k := 1) rfl (by decide) (by decide) rfl (fun ls hl => ?_)
          refine lv_iinc (v := 8) (lv' := [(2, .int 8), (1, .int 2), (0, .int u0)]) hx hb dX7_filled_22 hl (k := 1) rfl (by decide) (by decide) rfl (fun ls hl => ?_)
          refine lv_goto (tgt := 5) hx hb dX7_filled_25 (by decide) ?_
          refine lv_iload_n hx hb dX7_filled_5 rfl (lv_at hl 0 rfl) ?_
          refine lv_if_lt (tgt := 28) hx hb dX7_filled_6 (by decide) (fun c157 => ?_) (fun c157 => ?_)
          · exact absurd c157 (by decide)
          · refine lv_iload_n hx hb dX7_filled_9 rfl (lv_at hl 2 rfl) ?_
            refine lv_iload_n hx hb dX7_filled_10 rfl (lv_at hl 0 rfl) ?_
            refine lv_iushr hx hb dX7_filled_11 rfl (i_top (iv_any _) (fun z160 ez160 iz160 => ?_))
            refine lv_sipush (v := 255) hx hb dX7_filled_12 (by decide) ?_
            refine lv_iand hx hb dX7_filled_15 (i_top (iv_and (k := 255) rfl (by decide)) (fun z161 ez161 iz161 => ?_))
            have mz161 : z161.toInt = bt u0 8 := by rw [ez161, ez160]; exact bt_u8 _
            refine lv_if_eq (tgt := 22) hx hb dX7_filled_16 (by decide) (fun c162 => ?_) (fun c162 => ?_)
            · have c163 : z161.toInt = 0 := congrArg Int32.toInt c162
              have i164 : iv z161 0 0 := iv_Q c163 iz161 (iv_k (x := 0) (k := 0) rfl) (by decide)
              refine lv_iinc (v := 0) (lv' := [(2, .int 0), (1, .int 2), (0, .int u0)]) hx hb dX7_filled_22 hl (k := 0) rfl (by decide) (by decide) rfl (fun ls hl => ?_)
              refine lv_goto (tgt := 5) hx hb dX7_filled_25 (by decide) ?_
              refine lv_iload_n hx hb dX7_filled_5 rfl (lv_at hl 0 rfl) ?_
              refine lv_if_lt (tgt := 28) hx hb dX7_filled_6 (by decide) (fun c167 => ?_) (fun c167 => ?_)
              · exact absurd c167 (by decide)
              · refine lv_iload_n hx hb dX7_filled_9 rfl (lv_at hl 2 rfl) ?_
                refine lv_iload_n hx hb dX7_filled_10 rfl (lv_at hl 0 rfl) ?_
                refine lv_iushr hx hb dX7_filled_11 rfl (i_top (iv_any _) (fun z170 ez170 iz170 => ?_))
                refine lv_sipush (v := 255) hx hb dX7_filled_12 (by decide) ?_
                refine lv_iand hx hb dX7_filled_15 (i_top (iv_and (k := 255) rfl (by decide)) (fun z171 ez171 iz171 => ?_))
                have mz171 : z171.toInt = bt u0 0 := by rw [ez171, ez170]; exact bt_u0 _
                refine lv_if_eq (tgt := 22) hx hb dX7_filled_16 (by decide) (fun c172 => ?_) (fun c172 => ?_)
                · have c173 : z171.toInt = 0 := congrArg Int32.toInt c172
                  have i174 : iv z171 0 0 := iv_Q c173 iz171 (iv_k (x := 0) (k := 0) rfl) (by decide)
                  refine lv_iinc (v := -8) (lv' := [(2, .int (-8)), (1, .int 2), (0, .int u0)]) hx hb dX7_filled_22 hl (k := 0) rfl (by decide) (by decide) rfl (fun ls hl => ?_)
                  refine lv_goto (tgt := 5) hx hb dX7_filled_25 (by decide) ?_
                  refine lv_iload_n hx hb dX7_filled_5 rfl (lv_at hl 0 rfl) ?_
                  refine lv_if_lt (tgt := 28) hx hb dX7_filled_6 (by decide) (fun c177 => ?_) (fun c177 => ?_)
                  · refine lv_iload_n hx hb dX7_filled_28 rfl (lv_at hl 1 rfl) ?_
                    exact u_iret C h hr hQ (⟨⟨by decide, by decide⟩, t, o, (by have n_ : (2 : Int32).toInt = 2 := rfl; omega)⟩) (Nat.le_of_ble_eq_true rfl) (Nat.le_of_ble_eq_true rfl) dX7_filled_29
                  · exact absurd c177 (by decide)
                · have c175 : z171.toInt ≠ 0 := fun z_ => c172 (Int32.toInt_inj.mp z_)
                  have i176 : iv z171 1 255 := iv_Nl c175 iz171 (by decide)
                  refine lv_iinc (v := 3) (lv' := [(1, .int 3), (2, .int 0), (0, .int u0)]) hx hb dX7_filled_19 hl (k := 1) rfl (by decide) (by decide) rfl (fun ls hl => ?_)
                  refine lv_iinc (v := -8) (lv' := [(2, .int (-8)), (1, .int 3), (0, .int u0)]) hx hb dX7_filled_22 hl (k := 1) rfl (by decide) (by decide) rfl (fun ls hl => ?_)
                  refine lv_goto (tgt := 5) hx hb dX7_filled_25 (by decide) ?_
                  refine lv_iload_n hx hb dX7_filled_5 rfl (lv_at hl 0 rfl) ?_
                  refine lv_if_lt (tgt := 28) hx hb dX7_filled_6 (by decide) (fun c180 => ?_) (fun c180 => ?_)
                  · refine lv_iload_n hx hb dX7_filled_28 rfl (lv_at hl 1 rfl) ?_
                    exact u_iret C h hr hQ (⟨⟨by decide, by decide⟩, t, o, (by have n_ : (3 : Int32).toInt = 3 := rfl; omega)⟩) (Nat.le_of_ble_eq_true rfl) (Nat.le_of_ble_eq_true rfl) dX7_filled_29
                  · exact absurd c180 (by decide)
            · have c165 : z161.toInt ≠ 0 := fun z_ => c162 (Int32.toInt_inj.mp z_)
              have i166 : iv z161 1 255 := iv_Nl c165 iz161 (by decide)
              refine lv_iinc (v := 3) (lv' := [(1, .int 3), (2, .int 8), (0, .int u0)]) hx hb dX7_filled_19 hl (k := 1) rfl (by decide) (by decide) rfl (fun ls hl => ?_)
              refine lv_iinc (v := 0) (lv' := [(2, .int 0), (1, .int 3), (0, .int u0)]) hx hb dX7_filled_22 hl (k := 1) rfl (by decide) (by decide) rfl (fun ls hl => ?_)
              refine lv_goto (tgt := 5) hx hb dX7_filled_25 (by decide) ?_
              refine lv_iload_n hx hb dX7_filled_5 rfl (lv_at hl 0 rfl) ?_
              refine lv_if_lt (tgt := 28) hx hb dX7_filled_6 (by decide) (fun c183 => ?_) (fun c183 => ?_)
              · exact absurd c183 (by decide)
              · refine lv_iload_n hx hb dX7_filled_9 rfl (lv_at hl 2 rfl) ?_
                refine lv_iload_n hx hb dX7_filled_10 rfl (lv_at hl 0 rfl) ?_
                refine lv_iushr hx hb dX7_filled_11 rfl (i_top (iv_any _) (fun z186 ez186 iz186 => ?_))
                refine lv_sipush (v := 255) hx hb dX7_filled_12 (by decide) ?_
                refine lv_iand hx hb dX7_filled_15 (i_top (iv_and (k := 255) rfl (by decide)) (fun z187 ez187 iz187 => ?_))
                have mz187 : z187.toInt = bt u0 0 := by rw [ez187, ez186]; exact bt_u0 _
                refine lv_if_eq (tgt := 22) hx hb dX7_filled_16 (by decide) (fun c188 => ?_) (fun c188 => ?_)
                · have c189 : z187.toInt = 0 := congrArg Int32.toInt c188
                  have i190 : iv z187 0 0 := iv_Q c189 iz187 (iv_k (x := 0) (k := 0) rfl) (by decide)
                  refine lv_iinc (v := -8) (lv' := [(2, .int (-8)), (1, .int 3), (0, .int u0)]) hx hb dX7_filled_22 hl (k := 0) rfl (by decide) (by decide) rfl (fun ls hl => ?_)
                  refine lv_goto (tgt := 5) hx hb dX7_filled_25 (by decide) ?_
                  refine lv_iload_n hx hb dX7_filled_5 rfl (lv_at hl 0 rfl) ?_
                  refine lv_if_lt (tgt := 28) hx hb dX7_filled_6 (by decide) (fun c193 => ?_) (fun c193 => ?_)
                  · refine lv_iload_n hx hb dX7_filled_28 rfl (lv_at hl 1 rfl) ?_
                    exact u_iret C h hr hQ (⟨⟨by decide, by decide⟩, t, o, (by have n_ : (3 : Int32).toInt = 3 := rfl; omega)⟩) (Nat.le_of_ble_eq_true rfl) (Nat.le_of_ble_eq_true rfl) dX7_filled_29
                  · exact absurd c193 (by decide)
                · have c191 : z187.toInt ≠ 0 := fun z_ => c188 (Int32.toInt_inj.mp z_)
                  have i192 : iv z187 1 255 := iv_Nl c191 iz187 (by decide)
                  refine lv_iinc (v := 4) (lv' := [(1, .int 4), (2, .int 0), (0, .int u0)]) hx hb dX7_filled_19 hl (k := 1) rfl (by decide) (by decide) rfl (fun ls hl => ?_)
                  refine lv_iinc (v := -8) (lv' := [(2, .int (-8)), (1, .int 4), (0, .int u0)]) hx hb dX7_filled_22 hl (k := 1) rfl (by decide) (by decide) rfl (fun ls hl => ?_)
                  refine lv_goto (tgt := 5) hx hb dX7_filled_25 (by decide) ?_
                  refine lv_iload_n hx hb dX7_filled_5 rfl (lv_at hl 0 rfl) ?_
                  refine lv_if_lt (tgt := 28) hx hb dX7_filled_6 (by decide) (fun c196 => ?_) (fun c196 => ?_)
                  · refine lv_iload_n hx hb dX7_filled_28 rfl (lv_at hl 1 rfl) ?_
                    exact u_iret C h hr hQ (⟨⟨by decide, by decide⟩, t, o, (by have n_ : (4 : Int32).toInt = 4 := rfl; omega)⟩) (Nat.le_of_ble_eq_true rfl) (Nat.le_of_ble_eq_true rfl) dX7_filled_29
                  · exact absurd c196 (by decide)
abbrev rm_s_X11_bringsX : Room := { frames := 0, cells := 0, slots := 0, locals := 0 }
set_option maxRecDepth 100000 in
set_option maxHeartbeats 4000000 in
theorem s_X11_bringsX (l : Launch) (D : va_G) (G : Nat → Nat) (b0 : Nat) (τ : Nat → Nat) (f : hM) (t : TI G 9 τ f) (u0 : Nat) (hu0 : τ u0 = 60) (u1 : Int32) (hu1 : iv u1 (-2147483648) 2147483647) (ln : Int32) (hln : iv ln 0 200) (k_u0_2 : atp f u0 (fd 2 (.int ln))) (tq : Nat) (htq : τ tq = 61) (k_u0_1 : atp f u0 (fd 1 (.ref tq))) (rt : Nat → Int32) (hRtq : atp f tq (eqc (.inl (G 0, 200, .inl rt)))) (hr0 : ln.toInt + nb u1 ≤ 200) : mV l yX11_brings cX11_brings 4 rm_s_X11_bringsX D G b0 f [.ref u0, .int u1] (fun f1 => TI G 9 τ f1 ∧ Fr [60, 61, 60003] τ f f1 ∧ (∃ ln1 : Int32, atp f1 u0 (fd 2 (.int ln1)) ∧ iv ln1 0 200 ∧ ln1.toInt = ln.toInt + nb u1) ∧ (∃ rt1 : Nat → Int32, atp f1 tq (eqc (.inl (G 0, 200, .inl rt1))) ∧ (∀ B : Nat → Int, (∀ k : Nat, (k : Int) < ln.toInt → (rt k).toInt = sg (B k)) → ∀ k : Nat, (k : Int) < ln.toInt + nb u1 → (rt1 k).toInt = sg ((a4 (ln.toInt, B) u1).2 k)))) := by
  refine met2 (own := RX11) (by decide) rfl (Nat.le_of_ble_eq_true rfl) ?_
  intro p e s m args below meth c ls Q hQ C hr hini hl h
  have hl : lv_has ls 4 [(0, .ref u0), (1, .int u1)] := hl
  obtain ⟨hx, hb, hml, hown, hts, hE0, hlk⟩ := id C
  have o := Fr.rf [60, 61, 60003] τ f
  have hnb : nb u1 = nbq u1 24 + nbq u1 16 + nbq u1 8 + nbq u1 0 := rfl
  have hq24 := nbq_c u1 24
  have hq16 := nbq_c u1 16
  have hq8 := nbq_c u1 8
  have hq0 := nbq_c u1 0
  refine lv_bipush (v := 24) hx hb dX11_brings_0 (by decide) ?_
  refine lv_istore_n (lv' := [(2, .int 24), (0, .ref u0), (1, .int u1)]) hx hb dX11_brings_2 rfl hl (by decide) rfl (fun ls hl => ?_)
  refine lv_iload_n hx hb dX11_brings_3 rfl (lv_at hl 0 rfl) ?_
  refine lv_if_lt (tgt := 49) hx hb dX11_brings_4 (by decide) (fun c1 => ?_) (fun c1 => ?_)
  · exact absurd c1 (by decide)
  · refine lv_iload_n hx hb dX11_brings_7 rfl (lv_at hl 2 rfl) ?_
    refine lv_iload_n hx hb dX11_brings_8 rfl (lv_at hl 0 rfl) ?_
    refine lv_ishr hx hb dX11_brings_9 (i_top (iv_any _) (fun z4 ez4 iz4 => ?_))
    refine lv_sipush (v := 255) hx hb dX11_brings_10 (by decide) ?_
    refine lv_iand hx hb dX11_brings_13 (i_top (iv_and (k := 255) rfl (by decide)) (fun z5 ez5 iz5 => ?_))
    have mz5 : z5.toInt = bt u1 24 := by rw [ez5, ez4]; exact bt_s24 _
    refine lv_istore_n (lv' := [(3, .int z5), (2, .int 24), (0, .ref u0), (1, .int u1)]) hx hb dX11_brings_14 rfl hl (by decide) rfl (fun ls hl => ?_)
    refine lv_iload_n hx hb dX11_brings_15 rfl (lv_at hl 0 rfl) ?_
    refine lv_if_ne (tgt := 22) hx hb dX11_brings_16 (by decide) (fun c6 => ?_) (fun c6 => ?_)
    · have c7 : z5.toInt ≠ 0 := fun z_ => c6 (Int32.toInt_inj.mp z_)
      have i8 : iv z5 1 255 := iv_Nl c7 iz5 (by decide)
      refine lv_aload_n hx hb dX11_brings_22 rfl (lv_at hl 2 rfl) ?_
      refine t_getfd C h t hu0 (by decide) wf_60 (v := .ref tq) k_u0_1 fl_X11_9 dX11_brings_23 ?_
      refine lv_aload_n hx hb dX11_brings_26 rfl (lv_at hl 2 rfl) ?_
      refine t_getfd C h t hu0 (by decide) wf_60 (v := .int ln) k_u0_2 fl_X11_79 dX11_brings_27 ?_
      refine lv_iload_n hx hb dX11_brings_30 rfl (lv_at hl 0 rfl) ?_
      refine lv_i2b hx hb dX11_brings_31 rfl (i_top (iv_i2b _) (fun z11 ez11 iz11 => ?_))
      refine e_bast C h t o htq (by decide) (by decide) wf_61 fw_61 hRtq (ix_o (by omega)) dX11_brings_32 (fun R14 f12 erR14 H locs h tf12 of12 hq hn_ k13 => ?_)
      have k15 := atp.tg k_u0_2 hq hu0 (by decide)
      have k16 := atp.tg k_u0_1 hq hu0 (by decide)
      refine lv_aload_n hx hb dX11_brings_33 rfl (lv_at hl 2 rfl) ?_
      refine lv_dup hx hb dX11_brings_34 rfl ?_
      refine t_getfd C h tf12 hu0 (by decide) wf_60 (v := .int ln) k15 fl_X11_79 dX11_brings_35 ?_
      refine lv_iconst (v := 1) hx hb dX11_brings_38 (by decide) ?_
      refine i_addk hx hb dX11_brings_39 hln (k := 1) rfl (lo := 1) (hi := 201) (by decide) (fun z18 ez18 mz18 iz18 => ?_)
      refine t_put C h tf12 of12 hu0 (by decide) (by decide) (by decide) wf_60 fw_60 (k := 2) rfl flw_X11_79 (Or.inr ⟨_, _, _, rfl, rfl⟩) (v := .int z18) rfl rfl ⟨_, rfl, (show iv z18 0 200 from by omega)⟩ dX11_brings_40 (fun f19 H locs h tf19 of19 hq ha_ hn_ hk_ => ?_)
      have k21 := hk_ 1 _ (by decide) k16
      have k22 := atp.tg k13 hq htq (by decide)
      have k23 := ha_
      refine lv_iinc (v := 16) (lv' := [(2, .int 16), (3, .int z5), (0, .ref u0), (1, .int u1)]) hx hb dX11_brings_43 hl (k := 1) rfl (by decide) (by decide) rfl (fun ls hl => ?_)
      refine lv_goto (tgt := 3) hx hb dX11_brings_46 (by decide) ?_
      refine lv_iload_n hx hb dX11_brings_3 rfl (lv_at hl 0 rfl) ?_
      refine lv_if_lt (tgt := 49) hx hb dX11_brings_4 (by decide) (fun c24 => ?_) (fun c24 => ?_)
      · exact absurd c24 (by decide)
      · refine lv_iload_n hx hb dX11_brings_7 rfl (lv_at hl 3 rfl) ?_
        refine lv_iload_n hx hb dX11_brings_8 rfl (lv_at hl 0 rfl) ?_
        refine lv_ishr hx hb dX11_brings_9 (i_top (iv_any _) (fun z27 ez27 iz27 => ?_))
        refine lv_sipush (v := 255) hx hb dX11_brings_10 (by decide) ?_
        refine lv_iand hx hb dX11_brings_13 (i_top (iv_and (k := 255) rfl (by decide)) (fun z28 ez28 iz28 => ?_))
        have mz28 : z28.toInt = bt u1 16 := by rw [ez28, ez27]; exact bt_s16 _
        refine lv_istore_n (lv' := [(3, .int z28), (2, .int 16), (0, .ref u0), (1, .int u1)]) hx hb dX11_brings_14 rfl hl (by decide) rfl (fun ls hl => ?_)
        refine lv_iload_n hx hb dX11_brings_15 rfl (lv_at hl 0 rfl) ?_
        refine lv_if_ne (tgt := 22) hx hb dX11_brings_16 (by decide) (fun c29 => ?_) (fun c29 => ?_)
        · have c30 : z28.toInt ≠ 0 := fun z_ => c29 (Int32.toInt_inj.mp z_)
          have i31 : iv z28 1 255 := iv_Nl c30 iz28 (by decide)
          refine lv_aload_n hx hb dX11_brings_22 rfl (lv_at hl 2 rfl) ?_
          refine t_getfd C h tf19 hu0 (by decide) wf_60 (v := .ref tq) k21 fl_X11_9 dX11_brings_23 ?_
          refine lv_aload_n hx hb dX11_brings_26 rfl (lv_at hl 2 rfl) ?_
          refine t_getfd C h tf19 hu0 (by decide) wf_60 (v := .int z18) k23 fl_X11_79 dX11_brings_27 ?_
          refine lv_iload_n hx hb dX11_brings_30 rfl (lv_at hl 0 rfl) ?_
          refine lv_i2b hx hb dX11_brings_31 rfl (i_top (iv_i2b _) (fun z34 ez34 iz34 => ?_))
          refine e_bast C h tf19 of19 htq (by decide) (by decide) wf_61 fw_61 k22 (ix_o (by omega)) dX11_brings_32 (fun R37 f35 erR37 H locs h tf35 of35 hq hn_ k36 => ?_)
          have k38 := atp.tg k21 hq hu0 (by decide)
          have k40 := atp.tg k23 hq hu0 (by decide)
          refine lv_aload_n hx hb dX11_brings_33 rfl (lv_at hl 2 rfl) ?_
          refine lv_dup hx hb dX11_brings_34 rfl ?_
          refine t_getfd C h tf35 hu0 (by decide) wf_60 (v := .int z18) k40 fl_X11_79 dX11_brings_35 ?_
          refine lv_iconst (v := 1) hx hb dX11_brings_38 (by decide) ?_
          refine i_addk hx hb dX11_brings_39 iz18 (k := 1) rfl (lo := 2) (hi := 202) (by decide) (fun z41 ez41 mz41 iz41 => ?_)
          refine t_put C h tf35 of35 hu0 (by decide) (by decide) (by decide) wf_60 fw_60 (k := 2) rfl flw_X11_79 (Or.inr ⟨_, _, _, rfl, rfl⟩) (v := .int z41) rfl rfl ⟨_, rfl, (show iv z41 0 200 from by omega)⟩ dX11_brings_40 (fun f42 H locs h tf42 of42 hq ha_ hn_ hk_ => ?_)
          have k43 := hk_ 1 _ (by decide) k38
          have k45 := atp.tg k36 hq htq (by decide)
          have k46 := ha_
          refine lv_iinc (v := 8) (lv' := [(2, .int 8), (3, .int z28), (0, .ref u0), (1, .int u1)]) hx hb dX11_brings_43 hl (k := 1) rfl (by decide) (by decide) rfl (fun ls hl => ?_)
          refine lv_goto (tgt := 3) hx hb dX11_brings_46 (by decide) ?_
          refine lv_iload_n hx hb dX11_brings_3 rfl (lv_at hl 0 rfl) ?_
          refine lv_if_lt (tgt := 49) hx hb dX11_brings_4 (by decide) (fun c47 => ?_) (fun c47 => ?_)
          · exact absurd c47 (by decide)
          · refine lv_iload_n hx hb dX11_brings_7 rfl (lv_at hl 3 rfl) ?_
            refine lv_iload_n hx hb dX11_brings_8 rfl (lv_at hl 0 rfl) ?_
            refine lv_ishr hx hb dX11_brings_9 (i_top (iv_any _) (fun z50 ez50 iz50 => ?_))
            refine lv_sipush (v := 255) hx hb dX11_brings_10 (by decide) ?_
            refine lv_iand hx hb dX11_brings_13 (i_top (iv_and (k := 255) rfl (by decide)) (fun z51 ez51 iz51 => ?_))
            have mz51 : z51.toInt = bt u1 8 := by rw [ez51, ez50]; exact bt_s8 _
            refine lv_istore_n (lv' := [(3, .int z51), (2, .int 8), (0, .ref u0), (1, .int u1)]) hx hb dX11_brings_14 rfl hl (by decide) rfl (fun ls hl => ?_)
            refine lv_iload_n hx hb dX11_brings_15 rfl (lv_at hl 0 rfl) ?_
            refine lv_if_ne (tgt := 22) hx hb dX11_brings_16 (by decide) (fun c52 => ?_) (fun c52 => ?_)
            · have c53 : z51.toInt ≠ 0 := fun z_ => c52 (Int32.toInt_inj.mp z_)
              have i54 : iv z51 1 255 := iv_Nl c53 iz51 (by decide)
              refine lv_aload_n hx hb dX11_brings_22 rfl (lv_at hl 2 rfl) ?_
              refine t_getfd C h tf42 hu0 (by decide) wf_60 (v := .ref tq) k43 fl_X11_9 dX11_brings_23 ?_
              refine lv_aload_n hx hb dX11_brings_26 rfl (lv_at hl 2 rfl) ?_
              refine t_getfd C h tf42 hu0 (by decide) wf_60 (v := .int z41) k46 fl_X11_79 dX11_brings_27 ?_
              refine lv_iload_n hx hb dX11_brings_30 rfl (lv_at hl 0 rfl) ?_
              refine lv_i2b hx hb dX11_brings_31 rfl (i_top (iv_i2b _) (fun z57 ez57 iz57 => ?_))
              refine e_bast C h tf42 of42 htq (by decide) (by decide) wf_61 fw_61 k45 (ix_o (by omega)) dX11_brings_32 (fun R60 f58 erR60 H locs h tf58 of58 hq hn_ k59 => ?_)
              have k61 := atp.tg k43 hq hu0 (by decide)
              have k63 := atp.tg k46 hq hu0 (by decide)
              refine lv_aload_n hx hb dX11_brings_33 rfl (lv_at hl 2 rfl) ?_
              refine lv_dup hx hb dX11_brings_34 rfl ?_
              refine t_getfd C h tf58 hu0 (by decide) wf_60 (v := .int z41) k63 fl_X11_79 dX11_brings_35 ?_
              refine lv_iconst (v := 1) hx hb dX11_brings_38 (by decide) ?_
              refine i_addk hx hb dX11_brings_39 iz41 (k := 1) rfl (lo := 3) (hi := 203) (by decide) (fun z64 ez64 mz64 iz64 => ?_)
              refine t_put C h tf58 of58 hu0 (by decide) (by decide) (by decide) wf_60 fw_60 (k := 2) rfl flw_X11_79 (Or.inr ⟨_, _, _, rfl, rfl⟩) (v := .int z64) rfl rfl ⟨_, rfl, (show iv z64 0 200 from by omega)⟩ dX11_brings_40 (fun f65 H locs h tf65 of65 hq ha_ hn_ hk_ => ?_)
              have k66 := hk_ 1 _ (by decide) k61
              have k68 := atp.tg k59 hq htq (by decide)
              have k69 := ha_
              refine lv_iinc (v := 0) (lv' := [(2, .int 0), (3, .int z51), (0, .ref u0), (1, .int u1)]) hx hb dX11_brings_43 hl (k := 1) rfl (by decide) (by decide) rfl (fun ls hl => ?_)
              refine lv_goto (tgt := 3) hx hb dX11_brings_46 (by decide) ?_
              refine lv_iload_n hx hb dX11_brings_3 rfl (lv_at hl 0 rfl) ?_
              refine lv_if_lt (tgt := 49) hx hb dX11_brings_4 (by decide) (fun c70 => ?_) (fun c70 => ?_)
              · exact absurd c70 (by decide)
              · refine lv_iload_n hx hb dX11_brings_7 rfl (lv_at hl 3 rfl) ?_
                refine lv_iload_n hx hb dX11_brings_8 rfl (lv_at hl 0 rfl) ?_
                refine lv_ishr hx hb dX11_brings_9 (i_top (iv_any _) (fun z73 ez73 iz73 => ?_))
                refine lv_sipush (v := 255) hx hb dX11_brings_10 (by decide) ?_
                refine lv_iand hx hb dX11_brings_13 (i_top (iv_and (k := 255) rfl (by decide)) (fun z74 ez74 iz74 => ?_))
                have mz74 : z74.toInt = bt u1 0 := by rw [ez74, ez73]; exact bt_s0 _
                refine lv_istore_n (lv' := [(3, .int z74), (2, .int 0), (0, .ref u0), (1, .int u1)]) hx hb dX11_brings_14 rfl hl (by decide) rfl (fun ls hl => ?_)
                refine lv_iload_n hx hb dX11_brings_15 rfl (lv_at hl 0 rfl) ?_
                refine lv_if_ne (tgt := 22) hx hb dX11_brings_16 (by decide) (fun c75 => ?_) (fun c75 => ?_)
                · have c76 : z74.toInt ≠ 0 := fun z_ => c75 (Int32.toInt_inj.mp z_)
                  have i77 : iv z74 1 255 := iv_Nl c76 iz74 (by decide)
                  refine lv_aload_n hx hb dX11_brings_22 rfl (lv_at hl 2 rfl) ?_
                  refine t_getfd C h tf65 hu0 (by decide) wf_60 (v := .ref tq) k66 fl_X11_9 dX11_brings_23 ?_
                  refine lv_aload_n hx hb dX11_brings_26 rfl (lv_at hl 2 rfl) ?_
                  refine t_getfd C h tf65 hu0 (by decide) wf_60 (v := .int z64) k69 fl_X11_79 dX11_brings_27 ?_
                  refine lv_iload_n hx hb dX11_brings_30 rfl (lv_at hl 0 rfl) ?_
                  refine lv_i2b hx hb dX11_brings_31 rfl (i_top (iv_i2b _) (fun z80 ez80 iz80 => ?_))
                  refine e_bast C h tf65 of65 htq (by decide) (by decide) wf_61 fw_61 k68 (ix_o (by omega)) dX11_brings_32 (fun R83 f81 erR83 H locs h tf81 of81 hq hn_ k82 => ?_)
                  have k84 := atp.tg k66 hq hu0 (by decide)
                  have k86 := atp.tg k69 hq hu0 (by decide)
                  refine lv_aload_n hx hb dX11_brings_33 rfl (lv_at hl 2 rfl) ?_
                  refine lv_dup hx hb dX11_brings_34 rfl ?_
                  refine t_getfd C h tf81 hu0 (by decide) wf_60 (v := .int z64) k86 fl_X11_79 dX11_brings_35 ?_
                  refine lv_iconst (v := 1) hx hb dX11_brings_38 (by decide) ?_
                  refine i_addk hx hb dX11_brings_39 iz64 (k := 1) rfl (lo := 4) (hi := 204) (by decide) (fun z87 ez87 mz87 iz87 => ?_)
                  refine t_put C h tf81 of81 hu0 (by decide) (by decide) (by decide) wf_60 fw_60 (k := 2) rfl flw_X11_79 (Or.inr ⟨_, _, _, rfl, rfl⟩) (v := .int z87) rfl rfl ⟨_, rfl, (show iv z87 0 200 from by omega)⟩ dX11_brings_40 (fun f88 H locs h tf88 of88 hq ha_ hn_ hk_ => ?_)
                  have k89 := hk_ 1 _ (by decide) k84
                  have k91 := atp.tg k82 hq htq (by decide)
                  have k92 := ha_
                  refine lv_iinc (v := -8) (lv' := [(2, .int (-8)), (3, .int z74), (0, .ref u0), (1, .int u1)]) hx hb dX11_brings_43 hl (k := 1) rfl (by decide) (by decide) rfl (fun ls hl => ?_)
                  refine lv_goto (tgt := 3) hx hb dX11_brings_46 (by decide) ?_
                  refine lv_iload_n hx hb dX11_brings_3 rfl (lv_at hl 0 rfl) ?_
                  refine lv_if_lt (tgt := 49) hx hb dX11_brings_4 (by decide) (fun c93 => ?_) (fun c93 => ?_)
                  · exact u_vret C h hr hQ (⟨tf88, of88, ⟨z87, k92, (show iv z87 0 200 from by omega), (by omega)⟩, ⟨R83, k91, (fun B hB k hk => by
                        have hk : (k : Int) < ln.toInt + nb u1 := hk
                        have hb24 : bt u1 24 = z5.toInt := mz5.symm
                        have hc24 : ¬ bt u1 24 = 0 := by omega
                        have hb16 : bt u1 16 = z28.toInt := mz28.symm
                        have hc16 : ¬ bt u1 16 = 0 := by omega
                        have hb8 : bt u1 8 = z51.toInt := mz51.symm
                        have hc8 : ¬ bt u1 8 = 0 := by omega
                        have hb0 : bt u1 0 = z74.toInt := mz74.symm
                        have hc0 : ¬ bt u1 0 = 0 := by omega
                        simp only [a4, a1, if_neg hc24, if_neg hc16, if_neg hc8, if_neg hc0]
                        rw [erR83]; by_cases q_ : k = z64.toInt.toNat
                        · rw [upd_at q_, if_pos (by omega), ez80, sg_b iz74, hb0]
                        · rw [upd_off q_, if_neg (by omega)]
                          rw [erR60]; by_cases q_ : k = z41.toInt.toNat
                          · rw [upd_at q_, if_pos (by omega), ez57, sg_b iz51, hb8]
                          · rw [upd_off q_, if_neg (by omega)]
                            rw [erR37]; by_cases q_ : k = z18.toInt.toNat
                            · rw [upd_at q_, if_pos (by omega), ez34, sg_b iz28, hb16]
                            · rw [upd_off q_, if_neg (by omega)]
                              rw [erR14]; by_cases q_ : k = ln.toInt.toNat
                              · rw [upd_at q_, if_pos (by omega), ez11, sg_b iz5, hb24]
                              · rw [upd_off q_, if_neg (by omega)]
                                exact hB k (by omega))⟩⟩) (Nat.le_of_ble_eq_true rfl) (Nat.le_of_ble_eq_true rfl) dX11_brings_49
                  · exact absurd c93 (by decide)
                · have c78 : z74.toInt = 0 := congrArg Int32.toInt c75
                  have i79 : iv z74 0 0 := iv_Q c78 iz74 (iv_k (x := 0) (k := 0) rfl) (by decide)
                  refine lv_goto (tgt := 43) hx hb dX11_brings_19 (by decide) ?_
                  refine lv_iinc (v := -8) (lv' := [(2, .int (-8)), (3, .int z74), (0, .ref u0), (1, .int u1)]) hx hb dX11_brings_43 hl (k := 1) rfl (by decide) (by decide) rfl (fun ls hl => ?_)
                  refine lv_goto (tgt := 3) hx hb dX11_brings_46 (by decide) ?_
                  refine lv_iload_n hx hb dX11_brings_3 rfl (lv_at hl 0 rfl) ?_
                  refine lv_if_lt (tgt := 49) hx hb dX11_brings_4 (by decide) (fun c96 => ?_) (fun c96 => ?_)
                  · exact u_vret C h hr hQ (⟨tf65, of65, ⟨z64, k69, (show iv z64 0 200 from by omega), (by omega)⟩, ⟨R60, k68, (fun B hB k hk => by
                        have hk : (k : Int) < ln.toInt + nb u1 := hk
                        have hb24 : bt u1 24 = z5.toInt := mz5.symm
                        have hc24 : ¬ bt u1 24 = 0 := by omega
                        have hb16 : bt u1 16 = z28.toInt := mz28.symm
                        have hc16 : ¬ bt u1 16 = 0 := by omega
                        have hb8 : bt u1 8 = z51.toInt := mz51.symm
                        have hc8 : ¬ bt u1 8 = 0 := by omega
                        have hb0 : bt u1 0 = z74.toInt := mz74.symm
                        have hc0 : bt u1 0 = 0 := by omega
                        simp only [a4, a1, if_neg hc24, if_neg hc16, if_neg hc8, if_pos hc0]
                        rw [erR60]; by_cases q_ : k = z41.toInt.toNat
                        · rw [upd_at q_, if_pos (by omega), ez57, sg_b iz51, hb8]
                        · rw [upd_off q_, if_neg (by omega)]
                          rw [erR37]; by_cases q_ : k = z18.toInt.toNat
                          · rw [upd_at q_, if_pos (by omega), ez34, sg_b iz28, hb16]
                          · rw [upd_off q_, if_neg (by omega)]
                            rw [erR14]; by_cases q_ : k = ln.toInt.toNat
                            · rw [upd_at q_, if_pos (by omega), ez11, sg_b iz5, hb24]
                            · rw [upd_off q_, if_neg (by omega)]
                              exact hB k (by omega))⟩⟩) (Nat.le_of_ble_eq_true rfl) (Nat.le_of_ble_eq_true rfl) dX11_brings_49
                  · exact absurd c96 (by decide)
            · have c55 : z51.toInt = 0 := congrArg Int32.toInt c52
              have i56 : iv z51 0 0 := iv_Q c55 iz51 (iv_k (x := 0) (k := 0) rfl) (by decide)
              refine lv_goto (tgt := 43) hx hb dX11_brings_19 (by decide) ?_
              refine lv_iinc (v := 0) (lv' := [(2, .int 0), (3, .int z51), (0, .ref u0), (1, .int u1)]) hx hb dX11_brings_43 hl (k := 1) rfl (by decide) (by decide) rfl (fun ls hl => ?_)
              refine lv_goto (tgt := 3) hx hb dX11_brings_46 (by decide) ?_
              refine lv_iload_n hx hb dX11_brings_3 rfl (lv_at hl 0 rfl) ?_
              refine lv_if_lt (tgt := 49) hx hb dX11_brings_4 (by decide) (fun c99 => ?_) (fun c99 => ?_)
              · exact absurd c99 (by decide)
              · refine lv_iload_n hx hb dX11_brings_7 rfl (lv_at hl 3 rfl) ?_
                refine lv_iload_n hx hb dX11_brings_8 rfl (lv_at hl 0 rfl) ?_
                refine lv_ishr hx hb dX11_brings_9 (i_top (iv_any _) (fun z102 ez102 iz102 => ?_))
                refine lv_sipush (v := 255) hx hb dX11_brings_10 (by decide) ?_
                refine lv_iand hx hb dX11_brings_13 (i_top (iv_and (k := 255) rfl (by decide)) (fun z103 ez103 iz103 => ?_))
                have mz103 : z103.toInt = bt u1 0 := by rw [ez103, ez102]; exact bt_s0 _
                refine lv_istore_n (lv' := [(3, .int z103), (2, .int 0), (0, .ref u0), (1, .int u1)]) hx hb dX11_brings_14 rfl hl (by decide) rfl (fun ls hl => ?_)
                refine lv_iload_n hx hb dX11_brings_15 rfl (lv_at hl 0 rfl) ?_
                refine lv_if_ne (tgt := 22) hx hb dX11_brings_16 (by decide) (fun c104 => ?_) (fun c104 => ?_)
                · have c105 : z103.toInt ≠ 0 := fun z_ => c104 (Int32.toInt_inj.mp z_)
                  have i106 : iv z103 1 255 := iv_Nl c105 iz103 (by decide)
                  refine lv_aload_n hx hb dX11_brings_22 rfl (lv_at hl 2 rfl) ?_
                  refine t_getfd C h tf42 hu0 (by decide) wf_60 (v := .ref tq) k43 fl_X11_9 dX11_brings_23 ?_
                  refine lv_aload_n hx hb dX11_brings_26 rfl (lv_at hl 2 rfl) ?_
                  refine t_getfd C h tf42 hu0 (by decide) wf_60 (v := .int z41) k46 fl_X11_79 dX11_brings_27 ?_
                  refine lv_iload_n hx hb dX11_brings_30 rfl (lv_at hl 0 rfl) ?_
                  refine lv_i2b hx hb dX11_brings_31 rfl (i_top (iv_i2b _) (fun z109 ez109 iz109 => ?_))
                  refine e_bast C h tf42 of42 htq (by decide) (by decide) wf_61 fw_61 k45 (ix_o (by omega)) dX11_brings_32 (fun R112 f110 erR112 H locs h tf110 of110 hq hn_ k111 => ?_)
                  have k113 := atp.tg k43 hq hu0 (by decide)
                  have k115 := atp.tg k46 hq hu0 (by decide)
                  refine lv_aload_n hx hb dX11_brings_33 rfl (lv_at hl 2 rfl) ?_
                  refine lv_dup hx hb dX11_brings_34 rfl ?_
                  refine t_getfd C h tf110 hu0 (by decide) wf_60 (v := .int z41) k115 fl_X11_79 dX11_brings_35 ?_
                  refine lv_iconst (v := 1) hx hb dX11_brings_38 (by decide) ?_
                  refine i_addk hx hb dX11_brings_39 iz41 (k := 1) rfl (lo := 3) (hi := 203) (by decide) (fun z116 ez116 mz116 iz116 => ?_)
                  refine t_put C h tf110 of110 hu0 (by decide) (by decide) (by decide) wf_60 fw_60 (k := 2) rfl flw_X11_79 (Or.inr ⟨_, _, _, rfl, rfl⟩) (v := .int z116) rfl rfl ⟨_, rfl, (show iv z116 0 200 from by omega)⟩ dX11_brings_40 (fun f117 H locs h tf117 of117 hq ha_ hn_ hk_ => ?_)
                  have k118 := hk_ 1 _ (by decide) k113
                  have k120 := atp.tg k111 hq htq (by decide)
                  have k121 := ha_
                  refine lv_iinc (v := -8) (lv' := [(2, .int (-8)), (3, .int z103), (0, .ref u0), (1, .int u1)]) hx hb dX11_brings_43 hl (k := 1) rfl (by decide) (by decide) rfl (fun ls hl => ?_)
                  refine lv_goto (tgt := 3) hx hb dX11_brings_46 (by decide) ?_
                  refine lv_iload_n hx hb dX11_brings_3 rfl (lv_at hl 0 rfl) ?_
                  refine lv_if_lt (tgt := 49) hx hb dX11_brings_4 (by decide) (fun c122 => ?_) (fun c122 => ?_)
                  · exact u_vret C h hr hQ (⟨tf117, of117, ⟨z116, k121, (show iv z116 0 200 from by omega), (by omega)⟩, ⟨R112, k120, (fun B hB k hk => by
                        have hk : (k : Int) < ln.toInt + nb u1 := hk
                        have hb24 : bt u1 24 = z5.toInt := mz5.symm
                        have hc24 : ¬ bt u1 24 = 0 := by omega
                        have hb16 : bt u1 16 = z28.toInt := mz28.symm
                        have hc16 : ¬ bt u1 16 = 0 := by omega
                        have hb8 : bt u1 8 = z51.toInt := mz51.symm
                        have hc8 : bt u1 8 = 0 := by omega
                        have hb0 : bt u1 0 = z103.toInt := mz103.symm
                        have hc0 : ¬ bt u1 0 = 0 := by omega
                        simp only [a4, a1, if_neg hc24, if_neg hc16, if_pos hc8, if_neg hc0]
                        rw [erR112]; by_cases q_ : k = z41.toInt.toNat
                        · rw [upd_at q_, if_pos (by omega), ez109, sg_b iz103, hb0]
                        · rw [upd_off q_, if_neg (by omega)]
                          rw [erR37]; by_cases q_ : k = z18.toInt.toNat
                          · rw [upd_at q_, if_pos (by omega), ez34, sg_b iz28, hb16]
                          · rw [upd_off q_, if_neg (by omega)]
                            rw [erR14]; by_cases q_ : k = ln.toInt.toNat
                            · rw [upd_at q_, if_pos (by omega), ez11, sg_b iz5, hb24]
                            · rw [upd_off q_, if_neg (by omega)]
                              exact hB k (by omega))⟩⟩) (Nat.le_of_ble_eq_true rfl) (Nat.le_of_ble_eq_true rfl) dX11_brings_49
                  · exact absurd c122 (by decide)
                · have c107 : z103.toInt = 0 := congrArg Int32.toInt c104
                  have i108 : iv z103 0 0 := iv_Q c107 iz103 (iv_k (x := 0) (k := 0) rfl) (by decide)
                  refine lv_goto (tgt := 43) hx hb dX11_brings_19 (by decide) ?_
                  refine lv_iinc (v := -8) (lv' := [(2, .int (-8)), (3, .int z103), (0, .ref u0), (1, .int u1)]) hx hb dX11_brings_43 hl (k := 1) rfl (by decide) (by decide) rfl (fun ls hl => ?_)
                  refine lv_goto (tgt := 3) hx hb dX11_brings_46 (by decide) ?_
                  refine lv_iload_n hx hb dX11_brings_3 rfl (lv_at hl 0 rfl) ?_
                  refine lv_if_lt (tgt := 49) hx hb dX11_brings_4 (by decide) (fun c125 => ?_) (fun c125 => ?_)
                  · exact u_vret C h hr hQ (⟨tf42, of42, ⟨z41, k46, (show iv z41 0 200 from by omega), (by omega)⟩, ⟨R37, k45, (fun B hB k hk => by
                        have hk : (k : Int) < ln.toInt + nb u1 := hk
                        have hb24 : bt u1 24 = z5.toInt := mz5.symm
                        have hc24 : ¬ bt u1 24 = 0 := by omega
                        have hb16 : bt u1 16 = z28.toInt := mz28.symm
                        have hc16 : ¬ bt u1 16 = 0 := by omega
                        have hb8 : bt u1 8 = z51.toInt := mz51.symm
                        have hc8 : bt u1 8 = 0 := by omega
                        have hb0 : bt u1 0 = z103.toInt := mz103.symm
                        have hc0 : bt u1 0 = 0 := by omega
                        simp only [a4, a1, if_neg hc24, if_neg hc16, if_pos hc8, if_pos hc0]
                        rw [erR37]; by_cases q_ : k = z18.toInt.toNat
                        · rw [upd_at q_, if_pos (by omega), ez34, sg_b iz28, hb16]
                        · rw [upd_off q_, if_neg (by omega)]
                          rw [erR14]; by_cases q_ : k = ln.toInt.toNat
                          · rw [upd_at q_, if_pos (by omega), ez11, sg_b iz5, hb24]
                          · rw [upd_off q_, if_neg (by omega)]
                            exact hB k (by omega))⟩⟩) (Nat.le_of_ble_eq_true rfl) (Nat.le_of_ble_eq_true rfl) dX11_brings_49
                  · exact absurd c125 (by decide)
        · have c32 : z28.toInt = 0 := congrArg Int32.toInt c29
          have i33 : iv z28 0 0 := iv_Q c32 iz28 (iv_k (x := 0) (k := 0) rfl) (by decide)
          refine lv_goto (tgt := 43) hx hb dX11_brings_19 (by decide) ?_
          refine lv_iinc (v := 8) (lv' := [(2, .int 8), (3, .int z28), (0, .ref u0), (1, .int u1)]) hx hb dX11_brings_43 hl (k := 1) rfl (by decide) (by decide) rfl (fun ls hl => ?_)
          refine lv_goto (tgt := 3) hx hb dX11_brings_46 (by decide) ?_
          refine lv_iload_n hx hb dX11_brings_3 rfl (lv_at hl 0 rfl) ?_
          refine lv_if_lt (tgt := 49) hx hb dX11_brings_4 (by decide) (fun c128 => ?_) (fun c128 => ?_)
          · exact absurd c128 (by decide)
          · refine lv_iload_n hx hb dX11_brings_7 rfl (lv_at hl 3 rfl) ?_
            refine lv_iload_n hx hb dX11_brings_8 rfl (lv_at hl 0 rfl) ?_
            refine lv_ishr hx hb dX11_brings_9 (i_top (iv_any _) (fun z131 ez131 iz131 => ?_))
            refine lv_sipush (v := 255) hx hb dX11_brings_10 (by decide) ?_
            refine lv_iand hx hb dX11_brings_13 (i_top (iv_and (k := 255) rfl (by decide)) (fun z132 ez132 iz132 => ?_))
            have mz132 : z132.toInt = bt u1 8 := by rw [ez132, ez131]; exact bt_s8 _
            refine lv_istore_n (lv' := [(3, .int z132), (2, .int 8), (0, .ref u0), (1, .int u1)]) hx hb dX11_brings_14 rfl hl (by decide) rfl (fun ls hl => ?_)
            refine lv_iload_n hx hb dX11_brings_15 rfl (lv_at hl 0 rfl) ?_
            refine lv_if_ne (tgt := 22) hx hb dX11_brings_16 (by decide) (fun c133 => ?_) (fun c133 => ?_)
            · have c134 : z132.toInt ≠ 0 := fun z_ => c133 (Int32.toInt_inj.mp z_)
              have i135 : iv z132 1 255 := iv_Nl c134 iz132 (by decide)
              refine lv_aload_n hx hb dX11_brings_22 rfl (lv_at hl 2 rfl) ?_
              refine t_getfd C h tf19 hu0 (by decide) wf_60 (v := .ref tq) k21 fl_X11_9 dX11_brings_23 ?_
              refine lv_aload_n hx hb dX11_brings_26 rfl (lv_at hl 2 rfl) ?_
              refine t_getfd C h tf19 hu0 (by decide) wf_60 (v := .int z18) k23 fl_X11_79 dX11_brings_27 ?_
              refine lv_iload_n hx hb dX11_brings_30 rfl (lv_at hl 0 rfl) ?_
              refine lv_i2b hx hb dX11_brings_31 rfl (i_top (iv_i2b _) (fun z138 ez138 iz138 => ?_))
              refine e_bast C h tf19 of19 htq (by decide) (by decide) wf_61 fw_61 k22 (ix_o (by omega)) dX11_brings_32 (fun R141 f139 erR141 H locs h tf139 of139 hq hn_ k140 => ?_)
              have k142 := atp.tg k21 hq hu0 (by decide)
              have k144 := atp.tg k23 hq hu0 (by decide)
              refine lv_aload_n hx hb dX11_brings_33 rfl (lv_at hl 2 rfl) ?_
              refine lv_dup hx hb dX11_brings_34 rfl ?_
              refine t_getfd C h tf139 hu0 (by decide) wf_60 (v := .int z18) k144 fl_X11_79 dX11_brings_35 ?_
              refine lv_iconst (v := 1) hx hb dX11_brings_38 (by decide) ?_
              refine i_addk hx hb dX11_brings_39 iz18 (k := 1) rfl (lo := 2) (hi := 202) (by decide) (fun z145 ez145 mz145 iz145 => ?_)
              refine t_put C h tf139 of139 hu0 (by decide) (by decide) (by decide) wf_60 fw_60 (k := 2) rfl flw_X11_79 (Or.inr ⟨_, _, _, rfl, rfl⟩) (v := .int z145) rfl rfl ⟨_, rfl, (show iv z145 0 200 from by omega)⟩ dX11_brings_40 (fun f146 H locs h tf146 of146 hq ha_ hn_ hk_ => ?_)
              have k147 := hk_ 1 _ (by decide) k142
              have k149 := atp.tg k140 hq htq (by decide)
              have k150 := ha_
              refine lv_iinc (v := 0) (lv' := [(2, .int 0), (3, .int z132), (0, .ref u0), (1, .int u1)]) hx hb dX11_brings_43 hl (k := 1) rfl (by decide) (by decide) rfl (fun ls hl => ?_)
              refine lv_goto (tgt := 3) hx hb dX11_brings_46 (by decide) ?_
              refine lv_iload_n hx hb dX11_brings_3 rfl (lv_at hl 0 rfl) ?_
              refine lv_if_lt (tgt := 49) hx hb dX11_brings_4 (by decide) (fun c151 => ?_) (fun c151 => ?_)
              · exact absurd c151 (by decide)
              · refine lv_iload_n hx hb dX11_brings_7 rfl (lv_at hl 3 rfl) ?_
                refine lv_iload_n hx hb dX11_brings_8 rfl (lv_at hl 0 rfl) ?_
                refine lv_ishr hx hb dX11_brings_9 (i_top (iv_any _) (fun z154 ez154 iz154 => ?_))
                refine lv_sipush (v := 255) hx hb dX11_brings_10 (by decide) ?_
                refine lv_iand hx hb dX11_brings_13 (i_top (iv_and (k := 255) rfl (by decide)) (fun z155 ez155 iz155 => ?_))
                have mz155 : z155.toInt = bt u1 0 := by rw [ez155, ez154]; exact bt_s0 _
                refine lv_istore_n (lv' := [(3, .int z155), (2, .int 0), (0, .ref u0), (1, .int u1)]) hx hb dX11_brings_14 rfl hl (by decide) rfl (fun ls hl => ?_)
                refine lv_iload_n hx hb dX11_brings_15 rfl (lv_at hl 0 rfl) ?_
                refine lv_if_ne (tgt := 22) hx hb dX11_brings_16 (by decide) (fun c156 => ?_) (fun c156 => ?_)
                · have c157 : z155.toInt ≠ 0 := fun z_ => c156 (Int32.toInt_inj.mp z_)
                  have i158 : iv z155 1 255 := iv_Nl c157 iz155 (by decide)
                  refine lv_aload_n hx hb dX11_brings_22 rfl (lv_at hl 2 rfl) ?_
                  refine t_getfd C h tf146 hu0 (by decide) wf_60 (v := .ref tq) k147 fl_X11_9 dX11_brings_23 ?_
                  refine lv_aload_n hx hb dX11_brings_26 rfl (lv_at hl 2 rfl) ?_
                  refine t_getfd C h tf146 hu0 (by decide) wf_60 (v := .int z145) k150 fl_X11_79 dX11_brings_27 ?_
                  refine lv_iload_n hx hb dX11_brings_30 rfl (lv_at hl 0 rfl) ?_
                  refine lv_i2b hx hb dX11_brings_31 rfl (i_top (iv_i2b _) (fun z161 ez161 iz161 => ?_))
                  refine e_bast C h tf146 of146 htq (by decide) (by decide) wf_61 fw_61 k149 (ix_o (by omega)) dX11_brings_32 (fun R164 f162 erR164 H locs h tf162 of162 hq hn_ k163 => ?_)
                  have k165 := atp.tg k147 hq hu0 (by decide)
                  have k167 := atp.tg k150 hq hu0 (by decide)
                  refine lv_aload_n hx hb dX11_brings_33 rfl (lv_at hl 2 rfl) ?_
                  refine lv_dup hx hb dX11_brings_34 rfl ?_
                  refine t_getfd C h tf162 hu0 (by decide) wf_60 (v := .int z145) k167 fl_X11_79 dX11_brings_35 ?_
                  refine lv_iconst (v := 1) hx hb dX11_brings_38 (by decide) ?_
                  refine i_addk hx hb dX11_brings_39 iz145 (k := 1) rfl (lo := 3) (hi := 203) (by decide) (fun z168 ez168 mz168 iz168 => ?_)
                  refine t_put C h tf162 of162 hu0 (by decide) (by decide) (by decide) wf_60 fw_60 (k := 2) rfl flw_X11_79 (Or.inr ⟨_, _, _, rfl, rfl⟩) (v := .int z168) rfl rfl ⟨_, rfl, (show iv z168 0 200 from by omega)⟩ dX11_brings_40 (fun f169 H locs h tf169 of169 hq ha_ hn_ hk_ => ?_)
                  have k170 := hk_ 1 _ (by decide) k165
                  have k172 := atp.tg k163 hq htq (by decide)
                  have k173 := ha_
                  refine lv_iinc (v := -8) (lv' := [(2, .int (-8)), (3, .int z155), (0, .ref u0), (1, .int u1)]) hx hb dX11_brings_43 hl (k := 1) rfl (by decide) (by decide) rfl (fun ls hl => ?_)
                  refine lv_goto (tgt := 3) hx hb dX11_brings_46 (by decide) ?_
                  refine lv_iload_n hx hb dX11_brings_3 rfl (lv_at hl 0 rfl) ?_
                  refine lv_if_lt (tgt := 49) hx hb dX11_brings_4 (by decide) (fun c174 => ?_) (fun c174 => ?_)
                  · exact u_vret C h hr hQ (⟨tf169, of169, ⟨z168, k173, (show iv z168 0 200 from by omega), (by omega)⟩, ⟨R164, k172, (fun B hB k hk => by
                        have hk : (k : Int) < ln.toInt + nb u1 := hk
                        have hb24 : bt u1 24 = z5.toInt := mz5.symm
                        have hc24 : ¬ bt u1 24 = 0 := by omega
                        have hb16 : bt u1 16 = z28.toInt := mz28.symm
                        have hc16 : bt u1 16 = 0 := by omega
                        have hb8 : bt u1 8 = z132.toInt := mz132.symm
                        have hc8 : ¬ bt u1 8 = 0 := by omega
                        have hb0 : bt u1 0 = z155.toInt := mz155.symm
                        have hc0 : ¬ bt u1 0 = 0 := by omega
                        simp only [a4, a1, if_neg hc24, if_pos hc16, if_neg hc8, if_neg hc0]
                        rw [erR164]; by_cases q_ : k = z145.toInt.toNat
                        · rw [upd_at q_, if_pos (by omega), ez161, sg_b iz155, hb0]
                        · rw [upd_off q_, if_neg (by omega)]
                          rw [erR141]; by_cases q_ : k = z18.toInt.toNat
                          · rw [upd_at q_, if_pos (by omega), ez138, sg_b iz132, hb8]
                          · rw [upd_off q_, if_neg (by omega)]
                            rw [erR14]; by_cases q_ : k = ln.toInt.toNat
                            · rw [upd_at q_, if_pos (by omega), ez11, sg_b iz5, hb24]
                            · rw [upd_off q_, if_neg (by omega)]
                              exact hB k (by omega))⟩⟩) (Nat.le_of_ble_eq_true rfl) (Nat.le_of_ble_eq_true rfl) dX11_brings_49
                  · exact absurd c174 (by decide)
                · have c159 : z155.toInt = 0 := congrArg Int32.toInt c156
                  have i160 : iv z155 0 0 := iv_Q c159 iz155 (iv_k (x := 0) (k := 0) rfl) (by decide)
                  refine lv_goto (tgt := 43) hx hb dX11_brings_19 (by decide) ?_
                  refine lv_iinc (v := -8) (lv' := [(2, .int (-8)), (3, .int z155), (0, .ref u0), (1, .int u1)]) hx hb dX11_brings_43 hl (k := 1) rfl (by decide) (by decide) rfl (fun ls hl => ?_)
                  refine lv_goto (tgt := 3) hx hb dX11_brings_46 (by decide) ?_
                  refine lv_iload_n hx hb dX11_brings_3 rfl (lv_at hl 0 rfl) ?_
                  refine lv_if_lt (tgt := 49) hx hb dX11_brings_4 (by decide) (fun c177 => ?_) (fun c177 => ?_)
                  · exact u_vret C h hr hQ (⟨tf146, of146, ⟨z145, k150, (show iv z145 0 200 from by omega), (by omega)⟩, ⟨R141, k149, (fun B hB k hk => by
                        have hk : (k : Int) < ln.toInt + nb u1 := hk
                        have hb24 : bt u1 24 = z5.toInt := mz5.symm
                        have hc24 : ¬ bt u1 24 = 0 := by omega
                        have hb16 : bt u1 16 = z28.toInt := mz28.symm
                        have hc16 : bt u1 16 = 0 := by omega
                        have hb8 : bt u1 8 = z132.toInt := mz132.symm
                        have hc8 : ¬ bt u1 8 = 0 := by omega
                        have hb0 : bt u1 0 = z155.toInt := mz155.symm
                        have hc0 : bt u1 0 = 0 := by omega
                        simp only [a4, a1, if_neg hc24, if_pos hc16, if_neg hc8, if_pos hc0]
                        rw [erR141]; by_cases q_ : k = z18.toInt.toNat
                        · rw [upd_at q_, if_pos (by omega), ez138, sg_b iz132, hb8]
                        · rw [upd_off q_, if_neg (by omega)]
                          rw [erR14]; by_cases q_ : k = ln.toInt.toNat
                          · rw [upd_at q_, if_pos (by omega), ez11, sg_b iz5, hb24]
                          · rw [upd_off q_, if_neg (by omega)]
                            exact hB k (by omega))⟩⟩) (Nat.le_of_ble_eq_true rfl) (Nat.le_of_ble_eq_true rfl) dX11_brings_49
                  · exact absurd c177 (by decide)
            · have c136 : z132.toInt = 0 := congrArg Int32.toInt c133
              have i137 : iv z132 0 0 := iv_Q c136 iz132 (iv_k (x := 0) (k := 0) rfl) (by decide)
              refine lv_goto (tgt := 43) hx hb dX11_brings_19 (by decide) ?_
              refine lv_iinc (v := 0) (lv' := [(2, .int 0), (3, .int z132), (0, .ref u0), (1, .int u1)]) hx hb dX11_brings_43 hl (k := 1) rfl (by decide) (by decide) rfl (fun ls hl => ?_)
              refine lv_goto (tgt := 3) hx hb dX11_brings_46 (by decide) ?_
              refine lv_iload_n hx hb dX11_brings_3 rfl (lv_at hl 0 rfl) ?_
              refine lv_if_lt (tgt := 49) hx hb dX11_brings_4 (by decide) (fun c180 => ?_) (fun c180 => ?_)
              · exact absurd c180 (by decide)
              · refine lv_iload_n hx hb dX11_brings_7 rfl (lv_at hl 3 rfl) ?_
                refine lv_iload_n hx hb dX11_brings_8 rfl (lv_at hl 0 rfl) ?_
                refine lv_ishr hx hb dX11_brings_9 (i_top (iv_any _) (fun z183 ez183 iz183 => ?_))
                refine lv_sipush (v := 255) hx hb dX11_brings_10 (by decide) ?_
                refine lv_iand hx hb dX11_brings_13 (i_top (iv_and (k := 255) rfl (by decide)) (fun z184 ez184 iz184 => ?_))
                have mz184 : z184.toInt = bt u1 0 := by rw [ez184, ez183]; exact bt_s0 _
                refine lv_istore_n (lv' := [(3, .int z184), (2, .int 0), (0, .ref u0), (1, .int u1)]) hx hb dX11_brings_14 rfl hl (by decide) rfl (fun ls hl => ?_)
                refine lv_iload_n hx hb dX11_brings_15 rfl (lv_at hl 0 rfl) ?_
                refine lv_if_ne (tgt := 22) hx hb dX11_brings_16 (by decide) (fun c185 => ?_) (fun c185 => ?_)
                · have c186 : z184.toInt ≠ 0 := fun z_ => c185 (Int32.toInt_inj.mp z_)
                  have i187 : iv z184 1 255 := iv_Nl c186 iz184 (by decide)
                  refine lv_aload_n hx hb dX11_brings_22 rfl (lv_at hl 2 rfl) ?_
                  refine t_getfd C h tf19 hu0 (by decide) wf_60 (v := .ref tq) k21 fl_X11_9 dX11_brings_23 ?_
                  refine lv_aload_n hx hb dX11_brings_26 rfl (lv_at hl 2 rfl) ?_
                  refine t_getfd C h tf19 hu0 (by decide) wf_60 (v := .int z18) k23 fl_X11_79 dX11_brings_27 ?_
                  refine lv_iload_n hx hb dX11_brings_30 rfl (lv_at hl 0 rfl) ?_
                  refine lv_i2b hx hb dX11_brings_31 rfl (i_top (iv_i2b _) (fun z190 ez190 iz190 => ?_))
                  refine e_bast C h tf19 of19 htq (by decide) (by decide) wf_61 fw_61 k22 (ix_o (by omega)) dX11_brings_32 (fun R193 f191 erR193 H locs h tf191 of191 hq hn_ k192 => ?_)
                  have k194 := atp.tg k21 hq hu0 (by decide)
                  have k196 := atp.tg k23 hq hu0 (by decide)
                  refine lv_aload_n hx hb dX11_brings_33 rfl (lv_at hl 2 rfl) ?_
                  refine lv_dup hx hb dX11_brings_34 rfl ?_
                  refine t_getfd C h tf191 hu0 (by decide) wf_60 (v := .int z18) k196 fl_X11_79 dX11_brings_35 ?_
                  refine lv_iconst (v := 1) hx hb dX11_brings_38 (by decide) ?_
                  refine i_addk hx hb dX11_brings_39 iz18 (k := 1) rfl (lo := 2) (hi := 202) (by decide) (fun z197 ez197 mz197 iz197 => ?_)
                  refine t_put C h tf191 of191 hu0 (by decide) (by decide) (by decide) wf_60 fw_60 (k := 2) rfl flw_X11_79 (Or.inr ⟨_, _, _, rfl, rfl⟩) (v := .int z197) rfl rfl ⟨_, rfl, (show iv z197 0 200 from by omega)⟩ dX11_brings_40 (fun f198 H locs h tf198 of198 hq ha_ hn_ hk_ => ?_)
                  have k199 := hk_ 1 _ (by decide) k194
                  have k201 := atp.tg k192 hq htq (by decide)
                  have k202 := ha_
                  refine lv_iinc (v := -8) (lv' := [(2, .int (-8)), (3, .int z184), (0, .ref u0), (1, .int u1)]) hx hb dX11_brings_43 hl (k := 1) rfl (by decide) (by decide) rfl (fun ls hl => ?_)
                  refine lv_goto (tgt := 3) hx hb dX11_brings_46 (by decide) ?_
                  refine lv_iload_n hx hb dX11_brings_3 rfl (lv_at hl 0 rfl) ?_
                  refine lv_if_lt (tgt := 49) hx hb dX11_brings_4 (by decide) (fun c203 => ?_) (fun c203 => ?_)
                  · exact u_vret C h hr hQ (⟨tf198, of198, ⟨z197, k202, (show iv z197 0 200 from by omega), (by omega)⟩, ⟨R193, k201, (fun B hB k hk => by
                        have hk : (k : Int) < ln.toInt + nb u1 := hk
                        have hb24 : bt u1 24 = z5.toInt := mz5.symm
                        have hc24 : ¬ bt u1 24 = 0 := by omega
                        have hb16 : bt u1 16 = z28.toInt := mz28.symm
                        have hc16 : bt u1 16 = 0 := by omega
                        have hb8 : bt u1 8 = z132.toInt := mz132.symm
                        have hc8 : bt u1 8 = 0 := by omega
                        have hb0 : bt u1 0 = z184.toInt := mz184.symm
                        have hc0 : ¬ bt u1 0 = 0 := by omega
                        simp only [a4, a1, if_neg hc24, if_pos hc16, if_pos hc8, if_neg hc0]
                        rw [erR193]; by_cases q_ : k = z18.toInt.toNat
                        · rw [upd_at q_, if_pos (by omega), ez190, sg_b iz184, hb0]
                        · rw [upd_off q_, if_neg (by omega)]
                          rw [erR14]; by_cases q_ : k = ln.toInt.toNat
                          · rw [upd_at q_, if_pos (by omega), ez11, sg_b iz5, hb24]
                          · rw [upd_off q_, if_neg (by omega)]
                            exact hB k (by omega))⟩⟩) (Nat.le_of_ble_eq_true rfl) (Nat.le_of_ble_eq_true rfl) dX11_brings_49
                  · exact absurd c203 (by decide)
                · have c188 : z184.toInt = 0 := congrArg Int32.toInt c185
                  have i189 : iv z184 0 0 := iv_Q c188 iz184 (iv_k (x := 0) (k := 0) rfl) (by decide)
                  refine lv_goto (tgt := 43) hx hb dX11_brings_19 (by decide) ?_
                  refine lv_iinc (v := -8) (lv' := [(2, .int (-8)), (3, .int z184), (0, .ref u0), (1, .int u1)]) hx hb dX11_brings_43 hl (k := 1) rfl (by decide) (by decide) rfl (fun ls hl => ?_)
                  refine lv_goto (tgt := 3) hx hb dX11_brings_46 (by decide) ?_
                  refine lv_iload_n hx hb dX11_brings_3 rfl (lv_at hl 0 rfl) ?_
                  refine lv_if_lt (tgt := 49) hx hb dX11_brings_4 (by decide) (fun c206 => ?_) (fun c206 => ?_)
                  · exact u_vret C h hr hQ (⟨tf19, of19, ⟨z18, k23, (show iv z18 0 200 from by omega), (by omega)⟩, ⟨R14, k22, (fun B hB k hk => by
                        have hk : (k : Int) < ln.toInt + nb u1 := hk
                        have hb24 : bt u1 24 = z5.toInt := mz5.symm
                        have hc24 : ¬ bt u1 24 = 0 := by omega
                        have hb16 : bt u1 16 = z28.toInt := mz28.symm
                        have hc16 : bt u1 16 = 0 := by omega
                        have hb8 : bt u1 8 = z132.toInt := mz132.symm
                        have hc8 : bt u1 8 = 0 := by omega
                        have hb0 : bt u1 0 = z184.toInt := mz184.symm
                        have hc0 : bt u1 0 = 0 := by omega
                        simp only [a4, a1, if_neg hc24, if_pos hc16, if_pos hc8, if_pos hc0]
                        rw [erR14]; by_cases q_ : k = ln.toInt.toNat
                        · rw [upd_at q_, if_pos (by omega), ez11, sg_b iz5, hb24]
                        · rw [upd_off q_, if_neg (by omega)]
                          exact hB k (by omega))⟩⟩) (Nat.le_of_ble_eq_true rfl) (Nat.le_of_ble_eq_true rfl) dX11_brings_49
                  · exact absurd c206 (by decide)
    · have c9 : z5.toInt = 0 := congrArg Int32.toInt c6
      have i10 : iv z5 0 0 := iv_Q c9 iz5 (iv_k (x := 0) (k := 0) rfl) (by decide)
      refine lv_goto (tgt := 43) hx hb dX11_brings_19 (by decide) ?_
      refine lv_iinc (v := 16) (lv' := [(2, .int 16), (3, .int z5), (0, .ref u0), (1, .int u1)]) hx hb dX11_brings_43 hl (k := 1) rfl (by decide) (by decide) rfl (fun ls hl => ?_)
      refine lv_goto (tgt := 3) hx hb dX11_brings_46 (by decide) ?_
      refine lv_iload_n hx hb dX11_brings_3 rfl (lv_at hl 0 rfl) ?_
      refine lv_if_lt (tgt := 49) hx hb dX11_brings_4 (by decide) (fun c209 => ?_) (fun c209 => ?_)
      · exact absurd c209 (by decide)
      · refine lv_iload_n hx hb dX11_brings_7 rfl (lv_at hl 3 rfl) ?_
        refine lv_iload_n hx hb dX11_brings_8 rfl (lv_at hl 0 rfl) ?_
        refine lv_ishr hx hb dX11_brings_9 (i_top (iv_any _) (fun z212 ez212 iz212 => ?_))
        refine lv_sipush (v := 255) hx hb dX11_brings_10 (by decide) ?_
        refine lv_iand hx hb dX11_brings_13 (i_top (iv_and (k := 255) rfl (by decide)) (fun z213 ez213 iz213 => ?_))
        have mz213 : z213.toInt = bt u1 16 := by rw [ez213, ez212]; exact bt_s16 _
        refine lv_istore_n (lv' := [(3, .int z213), (2, .int 16), (0, .ref u0), (1, .int u1)]) hx hb dX11_brings_14 rfl hl (by decide) rfl (fun ls hl => ?_)
        refine lv_iload_n hx hb dX11_brings_15 rfl (lv_at hl 0 rfl) ?_
        refine lv_if_ne (tgt := 22) hx hb dX11_brings_16 (by decide) (fun c214 => ?_) (fun c214 => ?_)
        · have c215 : z213.toInt ≠ 0 := fun z_ => c214 (Int32.toInt_inj.mp z_)
          have i216 : iv z213 1 255 := iv_Nl c215 iz213 (by decide)
          refine lv_aload_n hx hb dX11_brings_22 rfl (lv_at hl 2 rfl) ?_
          refine t_getfd C h t hu0 (by decide) wf_60 (v := .ref tq) k_u0_1 fl_X11_9 dX11_brings_23 ?_
          refine lv_aload_n hx hb dX11_brings_26 rfl (lv_at hl 2 rfl) ?_
          refine t_getfd C h t hu0 (by decide) wf_60 (v := .int ln) k_u0_2 fl_X11_79 dX11_brings_27 ?_
          refine lv_iload_n hx hb dX11_brings_30 rfl (lv_at hl 0 rfl) ?_
          refine lv_i2b hx hb dX11_brings_31 rfl (i_top (iv_i2b _) (fun z219 ez219 iz219 => ?_))
          refine e_bast C h t o htq (by decide) (by decide) wf_61 fw_61 hRtq (ix_o (by omega)) dX11_brings_32 (fun R222 f220 erR222 H locs h tf220 of220 hq hn_ k221 => ?_)
          have k223 := atp.tg k_u0_2 hq hu0 (by decide)
          have k224 := atp.tg k_u0_1 hq hu0 (by decide)
          refine lv_aload_n hx hb dX11_brings_33 rfl (lv_at hl 2 rfl) ?_
          refine lv_dup hx hb dX11_brings_34 rfl ?_
          refine t_getfd C h tf220 hu0 (by decide) wf_60 (v := .int ln) k223 fl_X11_79 dX11_brings_35 ?_
          refine lv_iconst (v := 1) hx hb dX11_brings_38 (by decide) ?_
          refine i_addk hx hb dX11_brings_39 hln (k := 1) rfl (lo := 1) (hi := 201) (by decide) (fun z226 ez226 mz226 iz226 => ?_)
          refine t_put C h tf220 of220 hu0 (by decide) (by decide) (by decide) wf_60 fw_60 (k := 2) rfl flw_X11_79 (Or.inr ⟨_, _, _, rfl, rfl⟩) (v := .int z226) rfl rfl ⟨_, rfl, (show iv z226 0 200 from by omega)⟩ dX11_brings_40 (fun f227 H locs h tf227 of227 hq ha_ hn_ hk_ => ?_)
          have k229 := hk_ 1 _ (by decide) k224
          have k230 := atp.tg k221 hq htq (by decide)
          have k231 := ha_
          refine lv_iinc (v := 8) (lv' := [(2, .int 8), (3, .int z213), (0, .ref u0), (1, .int u1)]) hx hb dX11_brings_43 hl (k := 1) rfl (by decide) (by decide) rfl (fun ls hl => ?_)
          refine lv_goto (tgt := 3) hx hb dX11_brings_46 (by decide) ?_
          refine lv_iload_n hx hb dX11_brings_3 rfl (lv_at hl 0 rfl) ?_
          refine lv_if_lt (tgt := 49) hx hb dX11_brings_4 (by decide) (fun c232 => ?_) (fun c232 => ?_)
          · exact absurd c232 (by decide)
          · refine lv_iload_n hx hb dX11_brings_7 rfl (lv_at hl 3 rfl) ?_
            refine lv_iload_n hx hb dX11_brings_8 rfl (lv_at hl 0 rfl) ?_
            refine lv_ishr hx hb dX11_brings_9 (i_top (iv_any _) (fun z235 ez235 iz235 => ?_))
            refine lv_sipush (v := 255) hx hb dX11_brings_10 (by decide) ?_
            refine lv_iand hx hb dX11_brings_13 (i_top (iv_and (k := 255) rfl (by decide)) (fun z236 ez236 iz236 => ?_))
            have mz236 : z236.toInt = bt u1 8 := by rw [ez236, ez235]; exact bt_s8 _
            refine lv_istore_n (lv' := [(3, .int z236), (2, .int 8), (0, .ref u0), (1, .int u1)]) hx hb dX11_brings_14 rfl hl (by decide) rfl (fun ls hl => ?_)
            refine lv_iload_n hx hb dX11_brings_15 rfl (lv_at hl 0 rfl) ?_
            refine lv_if_ne (tgt := 22) hx hb dX11_brings_16 (by decide) (fun c237 => ?_) (fun c237 => ?_)
            · have c238 : z236.toInt ≠ 0 := fun z_ => c237 (Int32.toInt_inj.mp z_)
              have i239 : iv z236 1 255 := iv_Nl c238 iz236 (by decide)
              refine lv_aload_n hx hb dX11_brings_22 rfl (lv_at hl 2 rfl) ?_
              refine t_getfd C h tf227 hu0 (by decide) wf_60 (v := .ref tq) k229 fl_X11_9 dX11_brings_23 ?_
              refine lv_aload_n hx hb dX11_brings_26 rfl (lv_at hl 2 rfl) ?_
              refine t_getfd C h tf227 hu0 (by decide) wf_60 (v := .int z226) k231 fl_X11_79 dX11_brings_27 ?_
              refine lv_iload_n hx hb dX11_brings_30 rfl (lv_at hl 0 rfl) ?_
              refine lv_i2b hx hb dX11_brings_31 rfl (i_top (iv_i2b _) (fun z242 ez242 iz242 => ?_))
              refine e_bast C h tf227 of227 htq (by decide) (by decide) wf_61 fw_61 k230 (ix_o (by omega)) dX11_brings_32 (fun R245 f243 erR245 H locs h tf243 of243 hq hn_ k244 => ?_)
              have k246 := atp.tg k229 hq hu0 (by decide)
              have k248 := atp.tg k231 hq hu0 (by decide)
              refine lv_aload_n hx hb dX11_brings_33 rfl (lv_at hl 2 rfl) ?_
              refine lv_dup hx hb dX11_brings_34 rfl ?_
              refine t_getfd C h tf243 hu0 (by decide) wf_60 (v := .int z226) k248 fl_X11_79 dX11_brings_35 ?_
              refine lv_iconst (v := 1) hx hb dX11_brings_38 (by decide) ?_
              refine i_addk hx hb dX11_brings_39 iz226 (k := 1) rfl (lo := 2) (hi := 202) (by decide) (fun z249 ez249 mz249 iz249 => ?_)
              refine t_put C h tf243 of243 hu0 (by decide) (by decide) (by decide) wf_60 fw_60 (k := 2) rfl flw_X11_79 (Or.inr ⟨_, _, _, rfl, rfl⟩) (v := .int z249) rfl rfl ⟨_, rfl, (show iv z249 0 200 from by omega)⟩ dX11_brings_40 (fun f250 H locs h tf250 of250 hq ha_ hn_ hk_ => ?_)
              have k251 := hk_ 1 _ (by decide) k246
              have k253 := atp.tg k244 hq htq (by decide)
              have k254 := ha_
              refine lv_iinc (v := 0) (lv' := [(2, .int 0), (3, .int z236), (0, .ref u0), (1, .int u1)]) hx hb dX11_brings_43 hl (k := 1) rfl (by decide) (by decide) rfl (fun ls hl => ?_)
              refine lv_goto (tgt := 3) hx hb dX11_brings_46 (by decide) ?_
              refine lv_iload_n hx hb dX11_brings_3 rfl (lv_at hl 0 rfl) ?_
              refine lv_if_lt (tgt := 49) hx hb dX11_brings_4 (by decide) (fun c255 => ?_) (fun c255 => ?_)
              · exact absurd c255 (by decide)
              · refine lv_iload_n hx hb dX11_brings_7 rfl (lv_at hl 3 rfl) ?_
                refine lv_iload_n hx hb dX11_brings_8 rfl (lv_at hl 0 rfl) ?_
                refine lv_ishr hx hb dX11_brings_9 (i_top (iv_any _) (fun z258 ez258 iz258 => ?_))
                refine lv_sipush (v := 255) hx hb dX11_brings_10 (by decide) ?_
                refine lv_iand hx hb dX11_brings_13 (i_top (iv_and (k := 255) rfl (by decide)) (fun z259 ez259 iz259 => ?_))
                have mz259 : z259.toInt = bt u1 0 := by rw [ez259, ez258]; exact bt_s0 _
                refine lv_istore_n (lv' := [(3, .int z259), (2, .int 0), (0, .ref u0), (1, .int u1)]) hx hb dX11_brings_14 rfl hl (by decide) rfl (fun ls hl => ?_)
                refine lv_iload_n hx hb dX11_brings_15 rfl (lv_at hl 0 rfl) ?_
                refine lv_if_ne (tgt := 22) hx hb dX11_brings_16 (by decide) (fun c260 => ?_) (fun c260 => ?_)
                · have c261 : z259.toInt ≠ 0 := fun z_ => c260 (Int32.toInt_inj.mp z_)
                  have i262 : iv z259 1 255 := iv_Nl c261 iz259 (by decide)
                  refine lv_aload_n hx hb dX11_brings_22 rfl (lv_at hl 2 rfl) ?_
                  refine t_getfd C h tf250 hu0 (by decide) wf_60 (v := .ref tq) k251 fl_X11_9 dX11_brings_23 ?_
                  refine lv_aload_n hx hb dX11_brings_26 rfl (lv_at hl 2 rfl) ?_
                  refine t_getfd C h tf250 hu0 (by decide) wf_60 (v := .int z249) k254 fl_X11_79 dX11_brings_27 ?_
                  refine lv_iload_n hx hb dX11_brings_30 rfl (lv_at hl 0 rfl) ?_
                  refine lv_i2b hx hb dX11_brings_31 rfl (i_top (iv_i2b _) (fun z265 ez265 iz265 => ?_))
                  refine e_bast C h tf250 of250 htq (by decide) (by decide) wf_61 fw_61 k253 (ix_o (by omega)) dX11_brings_32 (fun R268 f266 erR268 H locs h tf266 of266 hq hn_ k267 => ?_)
                  have k269 := atp.tg k251 hq hu0 (by decide)
                  have k271 := atp.tg k254 hq hu0 (by decide)
                  refine lv_aload_n hx hb dX11_brings_33 rfl (lv_at hl 2 rfl) ?_
                  refine lv_dup hx hb dX11_brings_34 rfl ?_
                  refine t_getfd C h tf266 hu0 (by decide) wf_60 (v := .int z249) k271 fl_X11_79 dX11_brings_35 ?_
                  refine lv_iconst (v := 1) hx hb dX11_brings_38 (by decide) ?_
                  refine i_addk hx hb dX11_brings_39 iz249 (k := 1) rfl (lo := 3) (hi := 203) (by decide) (fun z272 ez272 mz272 iz272 => ?_)
                  refine t_put C h tf266 of266 hu0 (by decide) (by decide) (by decide) wf_60 fw_60 (k := 2) rfl flw_X11_79 (Or.inr ⟨_, _, _, rfl, rfl⟩) (v := .int z272) rfl rfl ⟨_, rfl, (show iv z272 0 200 from by omega)⟩ dX11_brings_40 (fun f273 H locs h tf273 of273 hq ha_ hn_ hk_ => ?_)
                  have k274 := hk_ 1 _ (by decide) k269
                  have k276 := atp.tg k267 hq htq (by decide)
                  have k277 := ha_
                  refine lv_iinc (v := -8) (lv' := [(2, .int (-8)), (3, .int z259), (0, .ref u0), (1, .int u1)]) hx hb dX11_brings_43 hl (k := 1) rfl (by decide) (by decide) rfl (fun ls hl => ?_)
                  refine lv_goto (tgt := 3) hx hb dX11_brings_46 (by decide) ?_
                  refine lv_iload_n hx hb dX11_brings_3 rfl (lv_at hl 0 rfl) ?_
                  refine lv_if_lt (tgt := 49) hx hb dX11_brings_4 (by decide) (fun c278 => ?_) (fun c278 => ?_)
                  · exact u_vret C h hr hQ (⟨tf273, of273, ⟨z272, k277, (show iv z272 0 200 from by omega), (by omega)⟩, ⟨R268, k276, (fun B hB k hk => by
                        have hk : (k : Int) < ln.toInt + nb u1 := hk
                        have hb24 : bt u1 24 = z5.toInt := mz5.symm
                        have hc24 : bt u1 24 = 0 := by omega
                        have hb16 : bt u1 16 = z213.toInt := mz213.symm
                        have hc16 : ¬ bt u1 16 = 0 := by omega
                        have hb8 : bt u1 8 = z236.toInt := mz236.symm
                        have hc8 : ¬ bt u1 8 = 0 := by omega
                        have hb0 : bt u1 0 = z259.toInt := mz259.symm
                        have hc0 : ¬ bt u1 0 = 0 := by omega
                        simp only [a4, a1, if_pos hc24, if_neg hc16, if_neg hc8, if_neg hc0]
                        rw [erR268]; by_cases q_ : k = z249.toInt.toNat
                        · rw [upd_at q_, if_pos (by omega), ez265, sg_b iz259, hb0]
                        · rw [upd_off q_, if_neg (by omega)]
                          rw [erR245]; by_cases q_ : k = z226.toInt.toNat
                          · rw [upd_at q_, if_pos (by omega), ez242, sg_b iz236, hb8]
                          · rw [upd_off q_, if_neg (by omega)]
                            rw [erR222]; by_cases q_ : k = ln.toInt.toNat
                            · rw [upd_at q_, if_pos (by omega), ez219, sg_b iz213, hb16]
                            · rw [upd_off q_, if_neg (by omega)]
                              exact hB k (by omega))⟩⟩) (Nat.le_of_ble_eq_true rfl) (Nat.le_of_ble_eq_true rfl) dX11_brings_49
                  · exact absurd c278 (by decide)
                · have c263 : z259.toInt = 0 := congrArg Int32.toInt c260
                  have i264 : iv z259 0 0 := iv_Q c263 iz259 (iv_k (x := 0) (k := 0) rfl) (by decide)
                  refine lv_goto (tgt := 43) hx hb dX11_brings_19 (by decide) ?_
                  refine lv_iinc (v := -8) (lv' := [(2, .int (-8)), (3, .int z259), (0, .ref u0), (1, .int u1)]) hx hb dX11_brings_43 hl (k := 1) rfl (by decide) (by decide) rfl (fun ls hl => ?_)
                  refine lv_goto (tgt := 3) hx hb dX11_brings_46 (by decide) ?_
                  refine lv_iload_n hx hb dX11_brings_3 rfl (lv_at hl 0 rfl) ?_
                  refine lv_if_lt (tgt := 49) hx hb dX11_brings_4 (by decide) (fun c281 => ?_) (fun c281 => ?_)
                  · exact u_vret C h hr hQ (⟨tf250, of250, ⟨z249, k254, (show iv z249 0 200 from by omega), (by omega)⟩, ⟨R245, k253, (fun B hB k hk => by
                        have hk : (k : Int) < ln.toInt + nb u1 := hk
                        have hb24 : bt u1 24 = z5.toInt := mz5.symm
                        have hc24 : bt u1 24 = 0 := by omega
                        have hb16 : bt u1 16 = z213.toInt := mz213.symm
                        have hc16 : ¬ bt u1 16 = 0 := by omega
                        have hb8 : bt u1 8 = z236.toInt := mz236.symm
                        have hc8 : ¬ bt u1 8 = 0 := by omega
                        have hb0 : bt u1 0 = z259.toInt := mz259.symm
                        have hc0 : bt u1 0 = 0 := by omega
                        simp only [a4, a1, if_pos hc24, if_neg hc16, if_neg hc8, if_pos hc0]
                        rw [erR245]; by_cases q_ : k = z226.toInt.toNat
                        · rw [upd_at q_, if_pos (by omega), ez242, sg_b iz236, hb8]
                        · rw [upd_off q_, if_neg (by omega)]
                          rw [erR222]; by_cases q_ : k = ln.toInt.toNat
                          · rw [upd_at q_, if_pos (by omega), ez219, sg_b iz213, hb16]
                          · rw [upd_off q_, if_neg (by omega)]
                            exact hB k (by omega))⟩⟩) (Nat.le_of_ble_eq_true rfl) (Nat.le_of_ble_eq_true rfl) dX11_brings_49
                  · exact absurd c281 (by decide)
            · have c240 : z236.toInt = 0 := congrArg Int32.toInt c237
              have i241 : iv z236 0 0 := iv_Q c240 iz236 (iv_k (x := 0) (k := 0) rfl) (by decide)
              refine lv_goto (tgt := 43) hx hb dX11_brings_19 (by decide) ?_
              refine lv_iinc (v := 0) (lv' := [(2, .int 0), (3, .int z236), (0, .ref u0), (1, .int u1)]) hx hb dX11_brings_43 hl (k := 1) rfl (by decide) (by decide) rfl (fun ls hl => ?_)
              refine lv_goto (tgt := 3) hx hb dX11_brings_46 (by decide) ?_
              refine lv_iload_n hx hb dX11_brings_3 rfl (lv_at hl 0 rfl) ?_
              refine lv_if_lt (tgt := 49) hx hb dX11_brings_4 (by decide) (fun c284 => ?_) (fun c284 => ?_)
              · exact absurd c284 (by decide)
              · refine lv_iload_n hx hb dX11_brings_7 rfl (lv_at hl 3 rfl) ?_
                refine lv_iload_n hx hb dX11_brings_8 rfl (lv_at hl 0 rfl) ?_
                refine lv_ishr hx hb dX11_brings_9 (i_top (iv_any _) (fun z287 ez287 iz287 => ?_))
                refine lv_sipush (v := 255) hx hb dX11_brings_10 (by decide) ?_
                refine lv_iand hx hb dX11_brings_13 (i_top (iv_and (k := 255) rfl (by decide)) (fun z288 ez288 iz288 => ?_))
                have mz288 : z288.toInt = bt u1 0 := by rw [ez288, ez287]; exact bt_s0 _
                refine lv_istore_n (lv' := [(3, .int z288), (2, .int 0), (0, .ref u0), (1, .int u1)]) hx hb dX11_brings_14 rfl hl (by decide) rfl (fun ls hl => ?_)
                refine lv_iload_n hx hb dX11_brings_15 rfl (lv_at hl 0 rfl) ?_
                refine lv_if_ne (tgt := 22) hx hb dX11_brings_16 (by decide) (fun c289 => ?_) (fun c289 => ?_)
                · have c290 : z288.toInt ≠ 0 := fun z_ => c289 (Int32.toInt_inj.mp z_)
                  have i291 : iv z288 1 255 := iv_Nl c290 iz288 (by decide)
                  refine lv_aload_n hx hb dX11_brings_22 rfl (lv_at hl 2 rfl) ?_
                  refine t_getfd C h tf227 hu0 (by decide) wf_60 (v := .ref tq) k229 fl_X11_9 dX11_brings_23 ?_
                  refine lv_aload_n hx hb dX11_brings_26 rfl (lv_at hl 2 rfl) ?_
                  refine t_getfd C h tf227 hu0 (by decide) wf_60 (v := .int z226) k231 fl_X11_79 dX11_brings_27 ?_
                  refine lv_iload_n hx hb dX11_brings_30 rfl (lv_at hl 0 rfl) ?_
                  refine lv_i2b hx hb dX11_brings_31 rfl (i_top (iv_i2b _) (fun z294 ez294 iz294 => ?_))
                  refine e_bast C h tf227 of227 htq (by decide) (by decide) wf_61 fw_61 k230 (ix_o (by omega)) dX11_brings_32 (fun R297 f295 erR297 H locs h tf295 of295 hq hn_ k296 => ?_)
                  have k298 := atp.tg k229 hq hu0 (by decide)
                  have k300 := atp.tg k231 hq hu0 (by decide)
                  refine lv_aload_n hx hb dX11_brings_33 rfl (lv_at hl 2 rfl) ?_
                  refine lv_dup hx hb dX11_brings_34 rfl ?_
                  refine t_getfd C h tf295 hu0 (by decide) wf_60 (v := .int z226) k300 fl_X11_79 dX11_brings_35 ?_
                  refine lv_iconst (v := 1) hx hb dX11_brings_38 (by decide) ?_
                  refine i_addk hx hb dX11_brings_39 iz226 (k := 1) rfl (lo := 2) (hi := 202) (by decide) (fun z301 ez301 mz301 iz301 => ?_)
                  refine t_put C h tf295 of295 hu0 (by decide) (by decide) (by decide) wf_60 fw_60 (k := 2) rfl flw_X11_79 (Or.inr ⟨_, _, _, rfl, rfl⟩) (v := .int z301) rfl rfl ⟨_, rfl, (show iv z301 0 200 from by omega)⟩ dX11_brings_40 (fun f302 H locs h tf302 of302 hq ha_ hn_ hk_ => ?_)
                  have k303 := hk_ 1 _ (by decide) k298
                  have k305 := atp.tg k296 hq htq (by decide)
                  have k306 := ha_
                  refine lv_iinc (v := -8) (lv' := [(2, .int (-8)), (3, .int z288), (0, .ref u0), (1, .int u1)]) hx hb dX11_brings_43 hl (k := 1) rfl (by decide) (by decide) rfl (fun ls hl => ?_)
                  refine lv_goto (tgt := 3) hx hb dX11_brings_46 (by decide) ?_
                  refine lv_iload_n hx hb dX11_brings_3 rfl (lv_at hl 0 rfl) ?_
                  refine lv_if_lt (tgt := 49) hx hb dX11_brings_4 (by decide) (fun c307 => ?_) (fun c307 => ?_)
                  · exact u_vret C h hr hQ (⟨tf302, of302, ⟨z301, k306, (show iv z301 0 200 from by omega), (by omega)⟩, ⟨R297, k305, (fun B hB k hk => by
                        have hk : (k : Int) < ln.toInt + nb u1 := hk
                        have hb24 : bt u1 24 = z5.toInt := mz5.symm
                        have hc24 : bt u1 24 = 0 := by omega
                        have hb16 : bt u1 16 = z213.toInt := mz213.symm
                        have hc16 : ¬ bt u1 16 = 0 := by omega
                        have hb8 : bt u1 8 = z236.toInt := mz236.symm
                        have hc8 : bt u1 8 = 0 := by omega
                        have hb0 : bt u1 0 = z288.toInt := mz288.symm
                        have hc0 : ¬ bt u1 0 = 0 := by omega
                        simp only [a4, a1, if_pos hc24, if_neg hc16, if_pos hc8, if_neg hc0]
                        rw [erR297]; by_cases q_ : k = z226.toInt.toNat
                        · rw [upd_at q_, if_pos (by omega), ez294, sg_b iz288, hb0]
                        · rw [upd_off q_, if_neg (by omega)]
                          rw [erR222]; by_cases q_ : k = ln.toInt.toNat
                          · rw [upd_at q_, if_pos (by omega), ez219, sg_b iz213, hb16]
                          · rw [upd_off q_, if_neg (by omega)]
                            exact hB k (by omega))⟩⟩) (Nat.le_of_ble_eq_true rfl) (Nat.le_of_ble_eq_true rfl) dX11_brings_49
                  · exact absurd c307 (by decide)
                · have c292 : z288.toInt = 0 := congrArg Int32.toInt c289
                  have i293 : iv z288 0 0 := iv_Q c292 iz288 (iv_k (x := 0) (k := 0) rfl) (by decide)
                  refine lv_goto (tgt := 43) hx hb dX11_brings_19 (by decide) ?_
                  refine lv_iinc (v := -8) (lv' := [(2, .int (-8)), (3, .int z288), (0, .ref u0), (1, .int u1)]) hx hb dX11_brings_43 hl (k := 1) rfl (by decide) (by decide) rfl (fun ls hl => ?_)
                  refine lv_goto (tgt := 3) hx hb dX11_brings_46 (by decide) ?_
                  refine lv_iload_n hx hb dX11_brings_3 rfl (lv_at hl 0 rfl) ?_
                  refine lv_if_lt (tgt := 49) hx hb dX11_brings_4 (by decide) (fun c310 => ?_) (fun c310 => ?_)
                  · exact u_vret C h hr hQ (⟨tf227, of227, ⟨z226, k231, (show iv z226 0 200 from by omega), (by omega)⟩, ⟨R222, k230, (fun B hB k hk => by
                        have hk : (k : Int) < ln.toInt + nb u1 := hk
                        have hb24 : bt u1 24 = z5.toInt := mz5.symm
                        have hc24 : bt u1 24 = 0 := by omega
                        have hb16 : bt u1 16 = z213.toInt := mz213.symm
                        have hc16 : ¬ bt u1 16 = 0 := by omega
                        have hb8 : bt u1 8 = z236.toInt := mz236.symm
                        have hc8 : bt u1 8 = 0 := by omega
                        have hb0 : bt u1 0 = z288.toInt := mz288.symm
                        have hc0 : bt u1 0 = 0 := by omega
                        simp only [a4, a1, if_pos hc24, if_neg hc16, if_pos hc8, if_pos hc0]
                        rw [erR222]; by_cases q_ : k = ln.toInt.toNat
                        · rw [upd_at q_, if_pos (by omega), ez219, sg_b iz213, hb16]
                        · rw [upd_off q_, if_neg (by omega)]
                          exact hB k (by omega))⟩⟩) (Nat.le_of_ble_eq_true rfl) (Nat.le_of_ble_eq_true rfl) dX11_brings_49
                  · exact absurd c310 (by decide)
        · have c217 : z213.toInt = 0 := congrArg Int32.toInt c214
          have i218 : iv z213 0 0 := iv_Q c217 iz213 (iv_k (x := 0) (k := 0) rfl) (by decide)
          refine lv_goto (tgt := 43) hx hb dX11_brings_19 (by decide) ?_
          refine lv_iinc (v := 8) (lv' := [(2, .int 8), (3, .int z213), (0, .ref u0), (1, .int u1)]) hx hb dX11_brings_43 hl (k := 1) rfl (by decide) (by decide) rfl (fun ls hl => ?_)
          refine lv_goto (tgt := 3) hx hb dX11_brings_46 (by decide) ?_
          refine lv_iload_n hx hb dX11_brings_3 rfl (lv_at hl 0 rfl) ?_
          refine lv_if_lt (tgt := 49) hx hb dX11_brings_4 (by decide) (fun c313 => ?_) (fun c313 => ?_)
          · exact absurd c313 (by decide)
          · refine lv_iload_n hx hb dX11_brings_7 rfl (lv_at hl 3 rfl) ?_
            refine lv_iload_n hx hb dX11_brings_8 rfl (lv_at hl 0 rfl) ?_
            refine lv_ishr hx hb dX11_brings_9 (i_top (iv_any _) (fun z316 ez316 iz316 => ?_))
            refine lv_sipush (v := 255) hx hb dX11_brings_10 (by decide) ?_
            refine lv_iand hx hb dX11_brings_13 (i_top (iv_and (k := 255) rfl (by decide)) (fun z317 ez317 iz317 => ?_))
            have mz317 : z317.toInt = bt u1 8 := by rw [ez317, ez316]; exact bt_s8 _
            refine lv_istore_n (lv' := [(3, .int z317), (2, .int 8), (0, .ref u0), (1, .int u1)]) hx hb dX11_brings_14 rfl hl (by decide) rfl (fun ls hl => ?_)
            refine lv_iload_n hx hb dX11_brings_15 rfl (lv_at hl 0 rfl) ?_
            refine lv_if_ne (tgt := 22) hx hb dX11_brings_16 (by decide) (fun c318 => ?_) (fun c318 => ?_)
            · have c319 : z317.toInt ≠ 0 := fun z_ => c318 (Int32.toInt_inj.mp z_)
              have i320 : iv z317 1 255 := iv_Nl c319 iz317 (by decide)
              refine lv_aload_n hx hb dX11_brings_22 rfl (lv_at hl 2 rfl) ?_
              refine t_getfd C h t hu0 (by decide) wf_60 (v := .ref tq) k_u0_1 fl_X11_9 dX11_brings_23 ?_
              refine lv_aload_n hx hb dX11_brings_26 rfl (lv_at hl 2 rfl) ?_
              refine t_getfd C h t hu0 (by decide) wf_60 (v := .int ln) k_u0_2 fl_X11_79 dX11_brings_27 ?_
              refine lv_iload_n hx hb dX11_brings_30 rfl (lv_at hl 0 rfl) ?_
              refine lv_i2b hx hb dX11_brings_31 rfl (i_top (iv_i2b _) (fun z323 ez323 iz323 => ?_))
              refine e_bast C h t o htq (by decide) (by decide) wf_61 fw_61 hRtq (ix_o (by omega)) dX11_brings_32 (fun R326 f324 erR326 H locs h tf324 of324 hq hn_ k325 => ?_)
              have k327 := atp.tg k_u0_2 hq hu0 (by decide)
              have k328 := atp.tg k_u0_1 hq hu0 (by decide)
              refine lv_aload_n hx hb dX11_brings_33 rfl (lv_at hl 2 rfl) ?_
              refine lv_dup hx hb dX11_brings_34 rfl ?_
              refine t_getfd C h tf324 hu0 (by decide) wf_60 (v := .int ln) k327 fl_X11_79 dX11_brings_35 ?_
              refine lv_iconst (v := 1) hx hb dX11_brings_38 (by decide) ?_
              refine i_addk hx hb dX11_brings_39 hln (k := 1) rfl (lo := 1) (hi := 201) (by decide) (fun z330 ez330 mz330 iz330 => ?_)
              refine t_put C h tf324 of324 hu0 (by decide) (by decide) (by decide) wf_60 fw_60 (k := 2) rfl flw_X11_79 (Or.inr ⟨_, _, _, rfl, rfl⟩) (v := .int z330) rfl rfl ⟨_, rfl, (show iv z330 0 200 from by omega)⟩ dX11_brings_40 (fun f331 H locs h tf331 of331 hq ha_ hn_ hk_ => ?_)
              have k333 := hk_ 1 _ (by decide) k328
              have k334 := atp.tg k325 hq htq (by decide)
              have k335 := ha_
              refine lv_iinc (v := 0) (lv' := [(2, .int 0), (3, .int z317), (0, .ref u0), (1, .int u1)]) hx hb dX11_brings_43 hl (k := 1) rfl (by decide) (by decide) rfl (fun ls hl => ?_)
              refine lv_goto (tgt := 3) hx hb dX11_brings_46 (by decide) ?_
              refine lv_iload_n hx hb dX11_brings_3 rfl (lv_at hl 0 rfl) ?_
              refine lv_if_lt (tgt := 49) hx hb dX11_brings_4 (by decide) (fun c336 => ?_) (fun c336 => ?_)
              · exact absurd c336 (by decide)
              · refine lv_iload_n hx hb dX11_brings_7 rfl (lv_at hl 3 rfl) ?_
                refine lv_iload_n hx hb dX11_brings_8 rfl (lv_at hl 0 rfl) ?_
                refine lv_ishr hx hb dX11_brings_9 (i_top (iv_any _) (fun z339 ez339 iz339 => ?_))
                refine lv_sipush (v := 255) hx hb dX11_brings_10 (by decide) ?_
                refine lv_iand hx hb dX11_brings_13 (i_top (iv_and (k := 255) rfl (by decide)) (fun z340 ez340 iz340 => ?_))
                have mz340 : z340.toInt = bt u1 0 := by rw [ez340, ez339]; exact bt_s0 _
                refine lv_istore_n (lv' := [(3, .int z340), (2, .int 0), (0, .ref u0), (1, .int u1)]) hx hb dX11_brings_14 rfl hl (by decide) rfl (fun ls hl => ?_)
                refine lv_iload_n hx hb dX11_brings_15 rfl (lv_at hl 0 rfl) ?_
                refine lv_if_ne (tgt := 22) hx hb dX11_brings_16 (by decide) (fun c341 => ?_) (fun c341 => ?_)
                · have c342 : z340.toInt ≠ 0 := fun z_ => c341 (Int32.toInt_inj.mp z_)
                  have i343 : iv z340 1 255 := iv_Nl c342 iz340 (by decide)
                  refine lv_aload_n hx hb dX11_brings_22 rfl (lv_at hl 2 rfl) ?_
                  refine t_getfd C h tf331 hu0 (by decide) wf_60 (v := .ref tq) k333 fl_X11_9 dX11_brings_23 ?_
                  refine lv_aload_n hx hb dX11_brings_26 rfl (lv_at hl 2 rfl) ?_
                  refine t_getfd C h tf331 hu0 (by decide) wf_60 (v := .int z330) k335 fl_X11_79 dX11_brings_27 ?_
                  refine lv_iload_n hx hb dX11_brings_30 rfl (lv_at hl 0 rfl) ?_
                  refine lv_i2b hx hb dX11_brings_31 rfl (i_top (iv_i2b _) (fun z346 ez346 iz346 => ?_))
                  refine e_bast C h tf331 of331 htq (by decide) (by decide) wf_61 fw_61 k334 (ix_o (by omega)) dX11_brings_32 (fun R349 f347 erR349 H locs h tf347 of347 hq hn_ k348 => ?_)
                  have k350 := atp.tg k333 hq hu0 (by decide)
                  have k352 := atp.tg k335 hq hu0 (by decide)
                  refine lv_aload_n hx hb dX11_brings_33 rfl (lv_at hl 2 rfl) ?_
                  refine lv_dup hx hb dX11_brings_34 rfl ?_
                  refine t_getfd C h tf347 hu0 (by decide) wf_60 (v := .int z330) k352 fl_X11_79 dX11_brings_35 ?_
                  refine lv_iconst (v := 1) hx hb dX11_brings_38 (by decide) ?_
                  refine i_addk hx hb dX11_brings_39 iz330 (k := 1) rfl (lo := 2) (hi := 202) (by decide) (fun z353 ez353 mz353 iz353 => ?_)
                  refine t_put C h tf347 of347 hu0 (by decide) (by decide) (by decide) wf_60 fw_60 (k := 2) rfl flw_X11_79 (Or.inr ⟨_, _, _, rfl, rfl⟩) (v := .int z353) rfl rfl ⟨_, rfl, (show iv z353 0 200 from by omega)⟩ dX11_brings_40 (fun f354 H locs h tf354 of354 hq ha_ hn_ hk_ => ?_)
                  have k355 := hk_ 1 _ (by decide) k350
                  have k357 := atp.tg k348 hq htq (by decide)
                  have k358 := ha_
                  refine lv_iinc (v := -8) (lv' := [(2, .int (-8)), (3, .int z340), (0, .ref u0), (1, .int u1)]) hx hb dX11_brings_43 hl (k := 1) rfl (by decide) (by decide) rfl (fun ls hl => ?_)
                  refine lv_goto (tgt := 3) hx hb dX11_brings_46 (by decide) ?_
                  refine lv_iload_n hx hb dX11_brings_3 rfl (lv_at hl 0 rfl) ?_
                  refine lv_if_lt (tgt := 49) hx hb dX11_brings_4 (by decide) (fun c359 => ?_) (fun c359 => ?_)
                  · exact u_vret C h hr hQ (⟨tf354, of354, ⟨z353, k358, (show iv z353 0 200 from by omega), (by omega)⟩, ⟨R349, k357, (fun B hB k hk => by
                        have hk : (k : Int) < ln.toInt + nb u1 := hk
                        have hb24 : bt u1 24 = z5.toInt := mz5.symm
                        have hc24 : bt u1 24 = 0 := by omega
                        have hb16 : bt u1 16 = z213.toInt := mz213.symm
                        have hc16 : bt u1 16 = 0 := by omega
                        have hb8 : bt u1 8 = z317.toInt := mz317.symm
                        have hc8 : ¬ bt u1 8 = 0 := by omega
                        have hb0 : bt u1 0 = z340.toInt := mz340.symm
                        have hc0 : ¬ bt u1 0 = 0 := by omega
                        simp only [a4, a1, if_pos hc24, if_pos hc16, if_neg hc8, if_neg hc0]
                        rw [erR349]; by_cases q_ : k = z330.toInt.toNat
                        · rw [upd_at q_, if_pos (by omega), ez346, sg_b iz340, hb0]
                        · rw [upd_off q_, if_neg (by omega)]
                          rw [erR326]; by_cases q_ : k = ln.toInt.toNat
                          · rw [upd_at q_, if_pos (by omega), ez323, sg_b iz317, hb8]
                          · rw [upd_off q_, if_neg (by omega)]
                            exact hB k (by omega))⟩⟩) (Nat.le_of_ble_eq_true rfl) (Nat.le_of_ble_eq_true rfl) dX11_brings_49
                  · exact absurd c359 (by decide)
                · have c344 : z340.toInt = 0 := congrArg Int32.toInt c341
                  have i345 : iv z340 0 0 := iv_Q c344 iz340 (iv_k (x := 0) (k := 0) rfl) (by decide)
                  refine lv_goto (tgt := 43) hx hb dX11_brings_19 (by decide) ?_
                  refine lv_iinc (v := -8) (lv' := [(2, .int (-8)), (3, .int z340), (0, .ref u0), (1, .int u1)]) hx hb dX11_brings_43 hl (k := 1) rfl (by decide) (by decide) rfl (fun ls hl => ?_)
                  refine lv_goto (tgt := 3) hx hb dX11_brings_46 (by decide) ?_
                  refine lv_iload_n hx hb dX11_brings_3 rfl (lv_at hl 0 rfl) ?_
                  refine lv_if_lt (tgt := 49) hx hb dX11_brings_4 (by decide) (fun c362 => ?_) (fun c362 => ?_)
                  · exact u_vret C h hr hQ (⟨tf331, of331, ⟨z330, k335, (show iv z330 0 200 from by omega), (by omega)⟩, ⟨R326, k334, (fun B hB k hk => by
                        have hk : (k : Int) < ln.toInt + nb u1 := hk
                        have hb24 : bt u1 24 = z5.toInt := mz5.symm
                        have hc24 : bt u1 24 = 0 := by omega
                        have hb16 : bt u1 16 = z213.toInt := mz213.symm
                        have hc16 : bt u1 16 = 0 := by omega
                        have hb8 : bt u1 8 = z317.toInt := mz317.symm
                        have hc8 : ¬ bt u1 8 = 0 := by omega
                        have hb0 : bt u1 0 = z340.toInt := mz340.symm
                        have hc0 : bt u1 0 = 0 := by omega
                        simp only [a4, a1, if_pos hc24, if_pos hc16, if_neg hc8, if_pos hc0]
                        rw [erR326]; by_cases q_ : k = ln.toInt.toNat
                        · rw [upd_at q_, if_pos (by omega), ez323, sg_b iz317, hb8]
                        · rw [upd_off q_, if_neg (by omega)]
                          exact hB k (by omega))⟩⟩) (Nat.le_of_ble_eq_true rfl) (Nat.le_of_ble_eq_true rfl) dX11_brings_49
                  · exact absurd c362 (by decide)
            · have c321 : z317.toInt = 0 := congrArg Int32.toInt c318
              have i322 : iv z317 0 0 := iv_Q c321 iz317 (iv_k (x := 0) (k := 0) rfl) (by decide)
              refine lv_goto (tgt := 43) hx hb dX11_brings_19 (by decide) ?_
              refine lv_iinc (v := 0) (lv' := [(2, .int 0), (3, .int z317), (0, .ref u0), (1, .int u1)]) hx hb dX11_brings_43 hl (k := 1) rfl (by decide) (by decide) rfl (fun ls hl => ?_)
              refine lv_goto (tgt := 3) hx hb dX11_brings_46 (by decide) ?_
              refine lv_iload_n hx hb dX11_brings_3 rfl (lv_at hl 0 rfl) ?_
              refine lv_if_lt (tgt := 49) hx hb dX11_brings_4 (by decide) (fun c365 => ?_) (fun c365 => ?_)
              · exact absurd c365 (by decide)
              · refine lv_iload_n hx hb dX11_brings_7 rfl (lv_at hl 3 rfl) ?_
                refine lv_iload_n hx hb dX11_brings_8 rfl (lv_at hl 0 rfl) ?_
                refine lv_ishr hx hb dX11_brings_9 (i_top (iv_any _) (fun z368 ez368 iz368 => ?_))
                refine lv_sipush (v := 255) hx hb dX11_brings_10 (by decide) ?_
                refine lv_iand hx hb dX11_brings_13 (i_top (iv_and (k := 255) rfl (by decide)) (fun z369 ez369 iz369 => ?_))
                have mz369 : z369.toInt = bt u1 0 := by rw [ez369, ez368]; exact bt_s0 _
                refine lv_istore_n (lv' := [(3, .int z369), (2, .int 0), (0, .ref u0), (1, .int u1)]) hx hb dX11_brings_14 rfl hl (by decide) rfl (fun ls hl => ?_)
                refine lv_iload_n hx hb dX11_brings_15 rfl (lv_at hl 0 rfl) ?_
                refine lv_if_ne (tgt := 22) hx hb dX11_brings_16 (by decide) (fun c370 => ?_) (fun c370 => ?_)
                · have c371 : z369.toInt ≠ 0 := fun z_ => c370 (Int32.toInt_inj.mp z_)
                  have i372 : iv z369 1 255 := iv_Nl c371 iz369 (by decide)
                  refine lv_aload_n hx hb dX11_brings_22 rfl (lv_at hl 2 rfl) ?_
                  refine t_getfd C h t hu0 (by decide) wf_60 (v := .ref tq) k_u0_1 fl_X11_9 dX11_brings_23 ?_
                  refine lv_aload_n hx hb dX11_brings_26 rfl (lv_at hl 2 rfl) ?_
                  refine t_getfd C h t hu0 (by decide) wf_60 (v := .int ln) k_u0_2 fl_X11_79 dX11_brings_27 ?_
                  refine lv_iload_n hx hb dX11_brings_30 rfl (lv_at hl 0 rfl) ?_
                  refine lv_i2b hx hb dX11_brings_31 rfl (i_top (iv_i2b _) (fun z375 ez375 iz375 => ?_))
                  refine e_bast C h t o htq (by decide) (by decide) wf_61 fw_61 hRtq (ix_o (by omega)) dX11_brings_32 (fun R378 f376 erR378 H locs h tf376 of376 hq hn_ k377 => ?_)
                  have k379 := atp.tg k_u0_2 hq hu0 (by decide)
                  have k380 := atp.tg k_u0_1 hq hu0 (by decide)
                  refine lv_aload_n hx hb dX11_brings_33 rfl (lv_at hl 2 rfl) ?_
                  refine lv_dup hx hb dX11_brings_34 rfl ?_
                  refine t_getfd C h tf376 hu0 (by decide) wf_60 (v := .int ln) k379 fl_X11_79 dX11_brings_35 ?_
                  refine lv_iconst (v := 1) hx hb dX11_brings_38 (by decide) ?_
                  refine i_addk hx hb dX11_brings_39 hln (k := 1) rfl (lo := 1) (hi := 201) (by decide) (fun z382 ez382 mz382 iz382 => ?_)
                  refine t_put C h tf376 of376 hu0 (by decide) (by decide) (by decide) wf_60 fw_60 (k := 2) rfl flw_X11_79 (Or.inr ⟨_, _, _, rfl, rfl⟩) (v := .int z382) rfl rfl ⟨_, rfl, (show iv z382 0 200 from by omega)⟩ dX11_brings_40 (fun f383 H locs h tf383 of383 hq ha_ hn_ hk_ => ?_)
                  have k385 := hk_ 1 _ (by decide) k380
                  have k386 := atp.tg k377 hq htq (by decide)
                  have k387 := ha_
                  refine lv_iinc (v := -8) (lv' := [(2, .int (-8)), (3, .int z369), (0, .ref u0), (1, .int u1)]) hx hb dX11_brings_43 hl (k := 1) rfl (by decide) (by decide) rfl (fun ls hl => ?_)
                  refine lv_goto (tgt := 3) hx hb dX11_brings_46 (by decide) ?_
                  refine lv_iload_n hx hb dX11_brings_3 rfl (lv_at hl 0 rfl) ?_
                  refine lv_if_lt (tgt := 49) hx hb dX11_brings_4 (by decide) (fun c388 => ?_) (fun c388 => ?_)
                  · exact u_vret C h hr hQ (⟨tf383, of383, ⟨z382, k387, (show iv z382 0 200 from by omega), (by omega)⟩, ⟨R378, k386, (fun B hB k hk => by
                        have hk : (k : Int) < ln.toInt + nb u1 := hk
                        have hb24 : bt u1 24 = z5.toInt := mz5.symm
                        have hc24 : bt u1 24 = 0 := by omega
                        have hb16 : bt u1 16 = z213.toInt := mz213.symm
                        have hc16 : bt u1 16 = 0 := by omega
                        have hb8 : bt u1 8 = z317.toInt := mz317.symm
                        have hc8 : bt u1 8 = 0 := by omega
                        have hb0 : bt u1 0 = z369.toInt := mz369.symm
                        have hc0 : ¬ bt u1 0 = 0 := by omega
                        simp only [a4, a1, if_pos hc24, if_pos hc16, if_pos hc8, if_neg hc0]
                        rw [erR378]; by_cases q_ : k = ln.toInt.toNat
                        · rw [upd_at q_, if_pos (by omega), ez375, sg_b iz369, hb0]
                        · rw [upd_off q_, if_neg (by omega)]
                          exact hB k (by omega))⟩⟩) (Nat.le_of_ble_eq_true rfl) (Nat.le_of_ble_eq_true rfl) dX11_brings_49
                  · exact absurd c388 (by decide)
                · have c373 : z369.toInt = 0 := congrArg Int32.toInt c370
                  have i374 : iv z369 0 0 := iv_Q c373 iz369 (iv_k (x := 0) (k := 0) rfl) (by decide)
                  refine lv_goto (tgt := 43) hx hb dX11_brings_19 (by decide) ?_
                  refine lv_iinc (v := -8) (lv' := [(2, .int (-8)), (3, .int z369), (0, .ref u0), (1, .int u1)]) hx hb dX11_brings_43 hl (k := 1) rfl (by decide) (by decide) rfl (fun ls hl => ?_)
                  refine lv_goto (tgt := 3) hx hb dX11_brings_46 (by decide) ?_
                  refine lv_iload_n hx hb dX11_brings_3 rfl (lv_at hl 0 rfl) ?_
                  refine lv_if_lt (tgt := 49) hx hb dX11_brings_4 (by decide) (fun c391 => ?_) (fun c391 => ?_)
                  · exact u_vret C h hr hQ (⟨t, o, ⟨ln, k_u0_2, hln, (by omega)⟩, ⟨rt, hRtq, (fun B hB k hk => by
                        have hk : (k : Int) < ln.toInt + nb u1 := hk
                        have hb24 : bt u1 24 = z5.toInt := mz5.symm
                        have hc24 : bt u1 24 = 0 := by omega
                        have hb16 : bt u1 16 = z213.toInt := mz213.symm
                        have hc16 : bt u1 16 = 0 := by omega
                        have hb8 : bt u1 8 = z317.toInt := mz317.symm
                        have hc8 : bt u1 8 = 0 := by omega
                        have hb0 : bt u1 0 = z369.toInt := mz369.symm
                        have hc0 : bt u1 0 = 0 := by omega
                        simp only [a4, a1, if_pos hc24, if_pos hc16, if_pos hc8, if_pos hc0]
                        exact hB k (by omega))⟩⟩) (Nat.le_of_ble_eq_true rfl) (Nat.le_of_ble_eq_true rfl) dX11_brings_49
                  · exact absurd c391 (by decide)
abbrev rm_s_X7_appendX : Room := { frames := 0, cells := 0, slots := 0, locals := 0 }
set_option maxRecDepth 100000 in
set_option maxHeartbeats 4000000 in
theorem s_X7_appendX (l : Launch) (D : va_G) (G : Nat → Nat) (b0 : Nat) (τ : Nat → Nat) (f : hM) (t : TI G 9 τ f) (u0 : Nat) (hu0 : τ u0 = 11) (u1 : Int32) (hu1 : iv u1 (-2147483648) 2147483647) (ln : Int32) (hln : iv ln 0 200) (k_u0_0 : atp f u0 (fd 0 (.int ln))) (tq : Nat) (htq : τ tq = 13) (k_u0_1 : atp f u0 (fd 1 (.ref tq))) (rt : Nat → Int32) (hRtq : atp f tq (eqc (.inl (G 1, 200, .inl rt)))) (hr0 : ln.toInt + nb u1 ≤ 200) : mV l yX7_append cX7_append 4 rm_s_X7_appendX D G b0 f [.ref u0, .int u1] (fun f1 => TI G 9 τ f1 ∧ Fr [11, 13, 11001] τ f f1 ∧ (∃ ln1 : Int32, atp f1 u0 (fd 0 (.int ln1)) ∧ iv ln1 0 200 ∧ ln1.toInt = ln.toInt + nb u1) ∧ (∃ rt1 : Nat → Int32, atp f1 tq (eqc (.inl (G 1, 200, .inl rt1))) ∧ (∀ B : Nat → Int, (∀ k : Nat, (k : Int) < ln.toInt → (rt k).toInt = B k) → ∀ k : Nat, (k : Int) < ln.toInt + nb u1 → (rt1 k).toInt = (a4 (ln.toInt, B) u1).2 k)) ∧ FX [u0, tq] f f1) := by
  refine met2 (own := RX7) (by decide) rfl (Nat.le_of_ble_eq_true rfl) ?_
  intro p e s m args below meth c ls Q hQ C hr hini hl h
  have hl : lv_has ls 4 [(0, .ref u0), (1, .int u1)] := hl
  obtain ⟨hx, hb, hml, hown, hts, hE0, hlk⟩ := id C
  have o := Fr.rf [11, 13, 11001] τ f
  have hfx := FX.rf [u0, tq] f
  have hnb : nb u1 = nbq u1 24 + nbq u1 16 + nbq u1 8 + nbq u1 0 := rfl
  have hq24 := nbq_c u1 24
  have hq16 := nbq_c u1 16
  have hq8 := nbq_c u1 8
  have hq0 := nbq_c u1 0
  refine lv_bipush (v := 24) hx hb dX7_append_0 (by decide) ?_
  refine lv_istore_n (lv' := [(2, .int 24), (0, .ref u0), (1, .int u1)]) hx hb dX7_append_2 rfl hl (by decide) rfl (fun ls hl => ?_)
  refine lv_iload_n hx hb dX7_append_3 rfl (lv_at hl 0 rfl) ?_
  refine lv_if_lt (tgt := 55) hx hb dX7_append_4 (by decide) (fun c1 => ?_) (fun c1 => ?_)
  · exact absurd c1 (by decide)
  · refine lv_iload_n hx hb dX7_append_7 rfl (lv_at hl 2 rfl) ?_
    refine lv_iload_n hx hb dX7_append_8 rfl (lv_at hl 0 rfl) ?_
    refine lv_iushr hx hb dX7_append_9 rfl (i_top (iv_any _) (fun z4 ez4 iz4 => ?_))
    refine lv_sipush (v := 255) hx hb dX7_append_10 (by decide) ?_
    refine lv_iand hx hb dX7_append_13 (i_top (iv_and (k := 255) rfl (by decide)) (fun z5 ez5 iz5 => ?_))
    have mz5 : z5.toInt = bt u1 24 := by rw [ez5, ez4]; exact bt_u24 _
    refine lv_istore_n (lv' := [(3, .int z5), (2, .int 24), (0, .ref u0), (1, .int u1)]) hx hb dX7_append_14 rfl hl (by decide) rfl (fun ls hl => ?_)
    refine lv_iload_n hx hb dX7_append_15 rfl (lv_at hl 0 rfl) ?_
    refine lv_if_eq (tgt := 49) hx hb dX7_append_16 (by decide) (fun c6 => ?_) (fun c6 => ?_)
    · have c7 : z5.toInt = 0 := congrArg Int32.toInt c6
      have i8 : iv z5 0 0 := iv_Q c7 iz5 (iv_k (x := 0) (k := 0) rfl) (by decide)
      refine lv_iinc (v := 16) (lv' := [(2, .int 16), (3, .int z5), (0, .ref u0), (1, .int u1)]) hx hb dX7_append_49 hl (k := 1) rfl (by decide) (by decide) rfl (fun ls hl => ?_)
      refine lv_goto (tgt := 3) hx hb dX7_append_52 (by decide) ?_
      refine lv_iload_n hx hb dX7_append_3 rfl (lv_at hl 0 rfl) ?_
      refine lv_if_lt (tgt := 55) hx hb dX7_append_4 (by decide) (fun c11 => ?_) (fun c11 => ?_)
      · exact absurd c11 (by decide)
      · refine lv_iload_n hx hb dX7_append_7 rfl (lv_at hl 3 rfl) ?_
        refine lv_iload_n hx hb dX7_append_8 rfl (lv_at hl 0 rfl) ?_
        refine lv_iushr hx hb dX7_append_9 rfl (i_top (iv_any _) (fun z14 ez14 iz14 => ?_))
        refine lv_sipush (v := 255) hx hb dX7_append_10 (by decide) ?_
        refine lv_iand hx hb dX7_append_13 (i_top (iv_and (k := 255) rfl (by decide)) (fun z15 ez15 iz15 => ?_))
        have mz15 : z15.toInt = bt u1 16 := by rw [ez15, ez14]; exact bt_u16 _
        refine lv_istore_n (lv' := [(3, .int z15), (2, .int 16), (0, .ref u0), (1, .int u1)]) hx hb dX7_append_14 rfl hl (by decide) rfl (fun ls hl => ?_)
        refine lv_iload_n hx hb dX7_append_15 rfl (lv_at hl 0 rfl) ?_
        refine lv_if_eq (tgt := 49) hx hb dX7_append_16 (by decide) (fun c16 => ?_) (fun c16 => ?_)
        · have c17 : z15.toInt = 0 := congrArg Int32.toInt c16
          have i18 : iv z15 0 0 := iv_Q c17 iz15 (iv_k (x := 0) (k := 0) rfl) (by decide)
          refine lv_iinc (v := 8) (lv' := [(2, .int 8), (3, .int z15), (0, .ref u0), (1, .int u1)]) hx hb dX7_append_49 hl (k := 1) rfl (by decide) (by decide) rfl (fun ls hl => ?_)
          refine lv_goto (tgt := 3) hx hb dX7_append_52 (by decide) ?_
          refine lv_iload_n hx hb dX7_append_3 rfl (lv_at hl 0 rfl) ?_
          refine lv_if_lt (tgt := 55) hx hb dX7_append_4 (by decide) (fun c21 => ?_) (fun c21 => ?_)
          · exact absurd c21 (by decide)
          · refine lv_iload_n hx hb dX7_append_7 rfl (lv_at hl 3 rfl) ?_
            refine lv_iload_n hx hb dX7_append_8 rfl (lv_at hl 0 rfl) ?_
            refine lv_iushr hx hb dX7_append_9 rfl (i_top (iv_any _) (fun z24 ez24 iz24 => ?_))
            refine lv_sipush (v := 255) hx hb dX7_append_10 (by decide) ?_
            refine lv_iand hx hb dX7_append_13 (i_top (iv_and (k := 255) rfl (by decide)) (fun z25 ez25 iz25 => ?_))
            have mz25 : z25.toInt = bt u1 8 := by rw [ez25, ez24]; exact bt_u8 _
            refine lv_istore_n (lv' := [(3, .int z25), (2, .int 8), (0, .ref u0), (1, .int u1)]) hx hb dX7_append_14 rfl hl (by decide) rfl (fun ls hl => ?_)
            refine lv_iload_n hx hb dX7_append_15 rfl (lv_at hl 0 rfl) ?_
            refine lv_if_eq (tgt := 49) hx hb dX7_append_16 (by decide) (fun c26 => ?_) (fun c26 => ?_)
            · have c27 : z25.toInt = 0 := congrArg Int32.toInt c26
              have i28 : iv z25 0 0 := iv_Q c27 iz25 (iv_k (x := 0) (k := 0) rfl) (by decide)
              refine lv_iinc (v := 0) (lv' := [(2, .int 0), (3, .int z25), (0, .ref u0), (1, .int u1)]) hx hb dX7_append_49 hl (k := 1) rfl (by decide) (by decide) rfl (fun ls hl => ?_)
              refine lv_goto (tgt := 3) hx hb dX7_append_52 (by decide) ?_
              refine lv_iload_n hx hb dX7_append_3 rfl (lv_at hl 0 rfl) ?_
              refine lv_if_lt (tgt := 55) hx hb dX7_append_4 (by decide) (fun c31 => ?_) (fun c31 => ?_)
              · exact absurd c31 (by decide)
              · refine lv_iload_n hx hb dX7_append_7 rfl (lv_at hl 3 rfl) ?_
                refine lv_iload_n hx hb dX7_append_8 rfl (lv_at hl 0 rfl) ?_
                refine lv_iushr hx hb dX7_append_9 rfl (i_top (iv_any _) (fun z34 ez34 iz34 => ?_))
                refine lv_sipush (v := 255) hx hb dX7_append_10 (by decide) ?_
                refine lv_iand hx hb dX7_append_13 (i_top (iv_and (k := 255) rfl (by decide)) (fun z35 ez35 iz35 => ?_))
                have mz35 : z35.toInt = bt u1 0 := by rw [ez35, ez34]; exact bt_u0 _
                refine lv_istore_n (lv' := [(3, .int z35), (2, .int 0), (0, .ref u0), (1, .int u1)]) hx hb dX7_append_14 rfl hl (by decide) rfl (fun ls hl => ?_)
                refine lv_iload_n hx hb dX7_append_15 rfl (lv_at hl 0 rfl) ?_
                refine lv_if_eq (tgt := 49) hx hb dX7_append_16 (by decide) (fun c36 => ?_) (fun c36 => ?_)
                · have c37 : z35.toInt = 0 := congrArg Int32.toInt c36
                  have i38 : iv z35 0 0 := iv_Q c37 iz35 (iv_k (x := 0) (k := 0) rfl) (by decide)
                  refine lv_iinc (v := -8) (lv' := [(2, .int (-8)), (3, .int z35), (0, .ref u0), (1, .int u1)]) hx hb dX7_append_49 hl (k := 1) rfl (by decide) (by decide) rfl (fun ls hl => ?_)
                  refine lv_goto (tgt := 3) hx hb dX7_append_52 (by decide) ?_
                  refine lv_iload_n hx hb dX7_append_3 rfl (lv_at hl 0 rfl) ?_
                  refine lv_if_lt (tgt := 55) hx hb dX7_append_4 (by decide) (fun c41 => ?_) (fun c41 => ?_)
                  · exact u_vret C h hr hQ (⟨t, o, ⟨ln, k_u0_0, hln, (by omega)⟩, ⟨rt, hRtq, (fun B hB k hk => by
                        have hk : (k : Int) < ln.toInt + nb u1 := hk
                        have hb24 : bt u1 24 = z5.toInt := mz5.symm
                        have hc24 : bt u1 24 = 0 := by omega
                        have hb16 : bt u1 16 = z15.toInt := mz15.symm
                        have hc16 : bt u1 16 = 0 := by omega
                        have hb8 : bt u1 8 = z25.toInt := mz25.symm
                        have hc8 : bt u1 8 = 0 := by omega
                        have hb0 : bt u1 0 = z35.toInt := mz35.symm
                        have hc0 : bt u1 0 = 0 := by omega
                        simp only [a4, a1, if_pos hc24, if_pos hc16, if_pos hc8, if_pos hc0]
                        exact hB k (by omega))⟩, hfx⟩) (Nat.le_of_ble_eq_true rfl) (Nat.le_of_ble_eq_true rfl) dX7_append_55
                  · exact absurd c41 (by decide)
                · have c39 : z35.toInt ≠ 0 := fun z_ => c36 (Int32.toInt_inj.mp z_)
                  have i40 : iv z35 1 255 := iv_Nl c39 iz35 (by decide)
                  refine lv_aload_n hx hb dX7_append_19 rfl (lv_at hl 2 rfl) ?_
                  refine t_getfd C h t hu0 (by decide) wf_11 (v := .int ln) k_u0_0 fl_X7_18 dX7_append_20 ?_
                  refine lv_sipush (v := 200) hx hb dX7_append_23 (by decide) ?_
                  refine lv_icmp_ge (tgt := 49) hx hb dX7_append_26 (by decide) (fun c44 => ?_) (fun c44 => ?_)
                  · have c45 : 200 ≤ ln.toInt := Int32.le_iff_toInt_le.mp c44
                    have i46 : iv ln 200 200 := iv_Er c45 (iv_k (x := 200) (k := 200) rfl) hln (by decide)
                    exfalso; omega
                  · have c47 : ln.toInt < 200 := Int32.lt_iff_toInt_lt.mp (iv_nle c44)
                    have i48 : iv ln 0 199 := iv_Ll c47 hln (iv_k (x := 200) (k := 200) rfl) (by decide)
                    refine lv_aload_n hx hb dX7_append_29 rfl (lv_at hl 2 rfl) ?_
                    refine t_getfd C h t hu0 (by decide) wf_11 (v := .ref tq) k_u0_1 fl_X7_11 dX7_append_30 ?_
                    refine lv_aload_n hx hb dX7_append_33 rfl (lv_at hl 2 rfl) ?_
                    refine t_getfd C h t hu0 (by decide) wf_11 (v := .int ln) k_u0_0 fl_X7_18 dX7_append_34 ?_
                    refine lv_iload_n hx hb dX7_append_37 rfl (lv_at hl 0 rfl) ?_
                    refine e_iast C h t o htq (by decide) (by decide) wf_13 fw_13 hRtq (iv_in i48 (by decide)) (iv_w i40 (by decide)) dX7_append_38 (fun R51 f49 erR51 H locs h tf49 of49 hq hn_ k50 => ?_)
                    have k52 := atp.tg k_u0_0 hq hu0 (by decide)
                    have k53 := atp.tg k_u0_1 hq hu0 (by decide)
                    have k55 := FX.up hfx hn_ (by simp)
                    refine lv_aload_n hx hb dX7_append_39 rfl (lv_at hl 2 rfl) ?_
                    refine lv_dup hx hb dX7_append_40 rfl ?_
                    refine t_getfd C h tf49 hu0 (by decide) wf_11 (v := .int ln) k52 fl_X7_18 dX7_append_41 ?_
                    refine lv_iconst (v := 1) hx hb dX7_append_44 (by decide) ?_
                    refine i_addk hx hb dX7_append_45 i48 (k := 1) rfl (lo := 1) (hi := 200) (by decide) (fun z56 ez56 mz56 iz56 => ?_)
                    refine t_put C h tf49 of49 hu0 (by decide) (by decide) (by decide) wf_11 fw_11 (k := 0) rfl flw_X7_18 (Or.inr ⟨_, _, _, rfl, rfl⟩) (v := .int z56) rfl rfl ⟨_, rfl, (iv_w iz56 (by decide))⟩ dX7_append_46 (fun f57 H locs h tf57 of57 hq ha_ hn_ hk_ => ?_)
                    have k59 := hk_ 1 _ (by decide) k53
                    have k60 := FX.up k55 hn_ (by simp)
                    have k61 := atp.tg k50 hq htq (by decide)
                    have k62 := ha_
                    refine lv_iinc (v := -8) (lv' := [(2, .int (-8)), (3, .int z35), (0, .ref u0), (1, .int u1)]) hx hb dX7_append_49 hl (k := 1) rfl (by decide) (by decide) rfl (fun ls hl => ?_)
                    refine lv_goto (tgt := 3) hx hb dX7_append_52 (by decide) ?_
                    refine lv_iload_n hx hb dX7_append_3 rfl (lv_at hl 0 rfl) ?_
                    refine lv_if_lt (tgt := 55) hx hb dX7_append_4 (by decide) (fun c63 => ?_) (fun c63 => ?_)
                    · exact u_vret C h hr hQ (⟨tf57, of57, ⟨z56, k62, (iv_w iz56 (by decide)), (by omega)⟩, ⟨R51, k61, (fun B hB k hk => by
                          have hk : (k : Int) < ln.toInt + nb u1 := hk
                          have hb24 : bt u1 24 = z5.toInt := mz5.symm
                          have hc24 : bt u1 24 = 0 := by omega
                          have hb16 : bt u1 16 = z15.toInt := mz15.symm
                          have hc16 : bt u1 16 = 0 := by omega
                          have hb8 : bt u1 8 = z25.toInt := mz25.symm
                          have hc8 : bt u1 8 = 0 := by omega
                          have hb0 : bt u1 0 = z35.toInt := mz35.symm
                          have hc0 : ¬ bt u1 0 = 0 := by omega
                          simp only [a4, a1, if_pos hc24, if_pos hc16, if_pos hc8, if_neg hc0]
                          rw [erR51]; by_cases q_ : k = ln.toInt.toNat
                          · rw [upd_at q_, if_pos (by omega), hb0]
                          · rw [upd_off q_, if_neg (by omega)]
                            exact hB k (by omega))⟩, k60⟩) (Nat.le_of_ble_eq_true rfl) (Nat.le_of_ble_eq_true rfl) dX7_append_55
                    · exact absurd c63 (by decide)
            · have c29 : z25.toInt ≠ 0 := fun z_ => c26 (Int32.toInt_inj.mp z_)
              have i30 : iv z25 1 255 := iv_Nl c29 iz25 (by decide)
              refine lv_aload_n hx hb dX7_append_19 rfl (lv_at hl 2 rfl) ?_
              refine t_getfd C h t hu0 (by decide) wf_11 (v := .int ln) k_u0_0 fl_X7_18 dX7_append_20 ?_
              refine lv_sipush (v := 200) hx hb dX7_append_23 (by decide) ?_
              refine lv_icmp_ge (tgt := 49) hx hb dX7_append_26 (by decide) (fun c66 => ?_) (fun c66 => ?_)
              · have c67 : 200 ≤ ln.toInt := Int32.le_iff_toInt_le.mp c66
                have i68 : iv ln 200 200 := iv_Er c67 (iv_k (x := 200) (k := 200) rfl) hln (by decide)
                exfalso; omega
              · have c69 : ln.toInt < 200 := Int32.lt_iff_toInt_lt.mp (iv_nle c66)
                have i70 : iv ln 0 199 := iv_Ll c69 hln (iv_k (x := 200) (k := 200) rfl) (by decide)
                refine lv_aload_n hx hb dX7_append_29 rfl (lv_at hl 2 rfl) ?_
                refine t_getfd C h t hu0 (by decide) wf_11 (v := .ref tq) k_u0_1 fl_X7_11 dX7_append_30 ?_
                refine lv_aload_n hx hb dX7_append_33 rfl (lv_at hl 2 rfl) ?_
                refine t_getfd C h t hu0 (by decide) wf_11 (v := .int ln) k_u0_0 fl_X7_18 dX7_append_34 ?_
                refine lv_iload_n hx hb dX7_append_37 rfl (lv_at hl 0 rfl) ?_
                refine e_iast C h t o htq (by decide) (by decide) wf_13 fw_13 hRtq (iv_in i70 (by decide)) (iv_w i30 (by decide)) dX7_append_38 (fun R73 f71 erR73 H locs h tf71 of71 hq hn_ k72 => ?_)
                have k74 := atp.tg k_u0_0 hq hu0 (by decide)
                have k75 := atp.tg k_u0_1 hq hu0 (by decide)
                have k77 := FX.up hfx hn_ (by simp)
                refine lv_aload_n hx hb dX7_append_39 rfl (lv_at hl 2 rfl) ?_
                refine lv_dup hx hb dX7_append_40 rfl ?_
                refine t_getfd C h tf71 hu0 (by decide) wf_11 (v := .int ln) k74 fl_X7_18 dX7_append_41 ?_
                refine lv_iconst (v := 1) hx hb dX7_append_44 (by decide) ?_
                refine i_addk hx hb dX7_append_45 i70 (k := 1) rfl (lo := 1) (hi := 200) (by decide) (fun z78 ez78 mz78 iz78 => ?_)
                refine t_put C h tf71 of71 hu0 (by decide) (by decide) (by decide) wf_11 fw_11 (k := 0) rfl flw_X7_18 (Or.inr ⟨_, _, _, rfl, rfl⟩) (v := .int z78) rfl rfl ⟨_, rfl, (iv_w iz78 (by decide))⟩ dX7_append_46 (fun f79 H locs h tf79 of79 hq ha_ hn_ hk_ => ?_)
                have k81 := hk_ 1 _ (by decide) k75
                have k82 := FX.up k77 hn_ (by simp)
                have k83 := atp.tg k72 hq htq (by decide)
                have k84 := ha_
                refine lv_iinc (v := 0) (lv' := [(2, .int 0), (3, .int z25), (0, .ref u0), (1, .int u1)]) hx hb dX7_append_49 hl (k := 1) rfl (by decide) (by decide) rfl (fun ls hl => ?_)
                refine lv_goto (tgt := 3) hx hb dX7_append_52 (by decide) ?_
                refine lv_iload_n hx hb dX7_append_3 rfl (lv_at hl 0 rfl) ?_
                refine lv_if_lt (tgt := 55) hx hb dX7_append_4 (by decide) (fun c85 => ?_) (fun c85 => ?_)
                · exact absurd c85 (by decide)
                · refine lv_iload_n hx hb dX7_append_7 rfl (lv_at hl 3 rfl) ?_
                  refine lv_iload_n hx hb dX7_append_8 rfl (lv_at hl 0 rfl) ?_
                  refine lv_iushr hx hb dX7_append_9 rfl (i_top (iv_any _) (fun z88 ez88 iz88 => ?_))
                  refine lv_sipush (v := 255) hx hb dX7_append_10 (by decide) ?_
                  refine lv_iand hx hb dX7_append_13 (i_top (iv_and (k := 255) rfl (by decide)) (fun z89 ez89 iz89 => ?_))
                  have mz89 : z89.toInt = bt u1 0 := by rw [ez89, ez88]; exact bt_u0 _
                  refine lv_istore_n (lv' := [(3, .int z89), (2, .int 0), (0, .ref u0), (1, .int u1)]) hx hb dX7_append_14 rfl hl (by decide) rfl (fun ls hl => ?_)
                  refine lv_iload_n hx hb dX7_append_15 rfl (lv_at hl 0 rfl) ?_
                  refine lv_if_eq (tgt := 49) hx hb dX7_append_16 (by decide) (fun c90 => ?_) (fun c90 => ?_)
                  · have c91 : z89.toInt = 0 := congrArg Int32.toInt c90
                    have i92 : iv z89 0 0 := iv_Q c91 iz89 (iv_k (x := 0) (k := 0) rfl) (by decide)
                    refine lv_iinc (v := -8) (lv' := [(2, .int (-8)), (3, .int z89), (0, .ref u0), (1, .int u1)]) hx hb dX7_append_49 hl (k := 1) rfl (by decide) (by decide) rfl (fun ls hl => ?_)
                    refine lv_goto (tgt := 3) hx hb dX7_append_52 (by decide) ?_
                    refine lv_iload_n hx hb dX7_append_3 rfl (lv_at hl 0 rfl) ?_
                    refine lv_if_lt (tgt := 55) hx hb dX7_append_4 (by decide) (fun c95 => ?_) (fun c95 => ?_)
                    · exact u_vret C h hr hQ (⟨tf79, of79, ⟨z78, k84, (iv_w iz78 (by decide)), (by omega)⟩, ⟨R73, k83, (fun B hB k hk => by
                          have hk : (k : Int) < ln.toInt + nb u1 := hk
                          have hb24 : bt u1 24 = z5.toInt := mz5.symm
                          have hc24 : bt u1 24 = 0 := by omega
                          have hb16 : bt u1 16 = z15.toInt := mz15.symm
                          have hc16 : bt u1 16 = 0 := by omega
                          have hb8 : bt u1 8 = z25.toInt := mz25.symm
                          have hc8 : ¬ bt u1 8 = 0 := by omega
                          have hb0 : bt u1 0 = z89.toInt := mz89.symm
                          have hc0 : bt u1 0 = 0 := by omega
                          simp only [a4, a1, if_pos hc24, if_pos hc16, if_neg hc8, if_pos hc0]
                          rw [erR73]; by_cases q_ : k = ln.toInt.toNat
                          · rw [upd_at q_, if_pos (by omega), hb8]
                          · rw [upd_off q_, if_neg (by omega)]
                            exact hB k (by omega))⟩, k82⟩) (Nat.le_of_ble_eq_true rfl) (Nat.le_of_ble_eq_true rfl) dX7_append_55
                    · exact absurd c95 (by decide)
                  · have c93 : z89.toInt ≠ 0 := fun z_ => c90 (Int32.toInt_inj.mp z_)
                    have i94 : iv z89 1 255 := iv_Nl c93 iz89 (by decide)
                    refine lv_aload_n hx hb dX7_append_19 rfl (lv_at hl 2 rfl) ?_
                    refine t_getfd C h tf79 hu0 (by decide) wf_11 (v := .int z78) k84 fl_X7_18 dX7_append_20 ?_
                    refine lv_sipush (v := 200) hx hb dX7_append_23 (by decide) ?_
                    refine lv_icmp_ge (tgt := 49) hx hb dX7_append_26 (by decide) (fun c98 => ?_) (fun c98 => ?_)
                    · have c99 : 200 ≤ z78.toInt := Int32.le_iff_toInt_le.mp c98
                      have i100 : iv z78 200 200 := iv_Er c99 (iv_k (x := 200) (k := 200) rfl) iz78 (by decide)
                      exfalso; omega
                    · have c101 : z78.toInt < 200 := Int32.lt_iff_toInt_lt.mp (iv_nle c98)
                      have i102 : iv z78 1 199 := iv_Ll c101 iz78 (iv_k (x := 200) (k := 200) rfl) (by decide)
                      refine lv_aload_n hx hb dX7_append_29 rfl (lv_at hl 2 rfl) ?_
                      refine t_getfd C h tf79 hu0 (by decide) wf_11 (v := .ref tq) k81 fl_X7_11 dX7_append_30 ?_
                      refine lv_aload_n hx hb dX7_append_33 rfl (lv_at hl 2 rfl) ?_
                      refine t_getfd C h tf79 hu0 (by decide) wf_11 (v := .int z78) k84 fl_X7_18 dX7_append_34 ?_
                      refine lv_iload_n hx hb dX7_append_37 rfl (lv_at hl 0 rfl) ?_
                      refine e_iast C h tf79 of79 htq (by decide) (by decide) wf_13 fw_13 k83 (iv_in i102 (by decide)) (iv_w i94 (by decide)) dX7_append_38 (fun R105 f103 erR105 H locs h tf103 of103 hq hn_ k104 => ?_)
                      have k106 := atp.tg k81 hq hu0 (by decide)
                      have k107 := FX.up k82 hn_ (by simp)
                      have k109 := atp.tg k84 hq hu0 (by decide)
                      refine lv_aload_n hx hb dX7_append_39 rfl (lv_at hl 2 rfl) ?_
                      refine lv_dup hx hb dX7_append_40 rfl ?_
                      refine t_getfd C h tf103 hu0 (by decide) wf_11 (v := .int z78) k109 fl_X7_18 dX7_append_41 ?_
                      refine lv_iconst (v := 1) hx hb dX7_append_44 (by decide) ?_
                      refine i_addk hx hb dX7_append_45 i102 (k := 1) rfl (lo := 2) (hi := 200) (by decide) (fun z110 ez110 mz110 iz110 => ?_)
                      refine t_put C h tf103 of103 hu0 (by decide) (by decide) (by decide) wf_11 fw_11 (k := 0) rfl flw_X7_18 (Or.inr ⟨_, _, _, rfl, rfl⟩) (v := .int z110) rfl rfl ⟨_, rfl, (iv_w iz110 (by decide))⟩ dX7_append_46 (fun f111 H locs h tf111 of111 hq ha_ hn_ hk_ => ?_)
                      have k112 := hk_ 1 _ (by decide) k106
                      have k113 := FX.up k107 hn_ (by simp)
                      have k115 := atp.tg k104 hq htq (by decide)
                      have k116 := ha_
                      refine lv_iinc (v := -8) (lv' := [(2, .int (-8)), (3, .int z89), (0, .ref u0), (1, .int u1)]) hx hb dX7_append_49 hl (k := 1) rfl (by decide) (by decide) rfl (fun ls hl => ?_)
                      refine lv_goto (tgt := 3) hx hb dX7_append_52 (by decide) ?_
                      refine lv_iload_n hx hb dX7_append_3 rfl (lv_at hl 0 rfl) ?_
                      refine lv_if_lt (tgt := 55) hx hb dX7_append_4 (by decide) (fun c117 => ?_) (fun c117 => ?_)
                      · exact u_vret C h hr hQ (⟨tf111, of111, ⟨z110, k116, (iv_w iz110 (by decide)), (by omega)⟩, ⟨R105, k115, (fun B hB k hk => by
                            have hk : (k : Int) < ln.toInt + nb u1 := hk
                            have hb24 : bt u1 24 = z5.toInt := mz5.symm
                            have hc24 : bt u1 24 = 0 := by omega
                            have hb16 : bt u1 16 = z15.toInt := mz15.symm
                            have hc16 : bt u1 16 = 0 := by omega
                            have hb8 : bt u1 8 = z25.toInt := mz25.symm
                            have hc8 : ¬ bt u1 8 = 0 := by omega
                            have hb0 : bt u1 0 = z89.toInt := mz89.symm
                            have hc0 : ¬ bt u1 0 = 0 := by omega
                            simp only [a4, a1, if_pos hc24, if_pos hc16, if_neg hc8, if_neg hc0]
                            rw [erR105]; by_cases q_ : k = z78.toInt.toNat
                            · rw [upd_at q_, if_pos (by omega), hb0]
                            · rw [upd_off q_, if_neg (by omega)]
                              rw [erR73]; by_cases q_ : k = ln.toInt.toNat
                              · rw [upd_at q_, if_pos (by omega), hb8]
                              · rw [upd_off q_, if_neg (by omega)]
                                exact hB k (by omega))⟩, k113⟩) (Nat.le_of_ble_eq_true rfl) (Nat.le_of_ble_eq_true rfl) dX7_append_55
                      · exact absurd c117 (by decide)
        · have c19 : z15.toInt ≠ 0 := fun z_ => c16 (Int32.toInt_inj.mp z_)
          have i20 : iv z15 1 255 := iv_Nl c19 iz15 (by decide)
          refine lv_aload_n hx hb dX7_append_19 rfl (lv_at hl 2 rfl) ?_
          refine t_getfd C h t hu0 (by decide) wf_11 (v := .int ln) k_u0_0 fl_X7_18 dX7_append_20 ?_
          refine lv_sipush (v := 200) hx hb dX7_append_23 (by decide) ?_
          refine lv_icmp_ge (tgt := 49) hx hb dX7_append_26 (by decide) (fun c120 => ?_) (fun c120 => ?_)
          · have c121 : 200 ≤ ln.toInt := Int32.le_iff_toInt_le.mp c120
            have i122 : iv ln 200 200 := iv_Er c121 (iv_k (x := 200) (k := 200) rfl) hln (by decide)
            exfalso; omega
          · have c123 : ln.toInt < 200 := Int32.lt_iff_toInt_lt.mp (iv_nle c120)
            have i124 : iv ln 0 199 := iv_Ll c123 hln (iv_k (x := 200) (k := 200) rfl) (by decide)
            refine lv_aload_n hx hb dX7_append_29 rfl (lv_at hl 2 rfl) ?_
            refine t_getfd C h t hu0 (by decide) wf_11 (v := .ref tq) k_u0_1 fl_X7_11 dX7_append_30 ?_
            refine lv_aload_n hx hb dX7_append_33 rfl (lv_at hl 2 rfl) ?_
            refine t_getfd C h t hu0 (by decide) wf_11 (v := .int ln) k_u0_0 fl_X7_18 dX7_append_34 ?_
            refine lv_iload_n hx hb dX7_append_37 rfl (lv_at hl 0 rfl) ?_
            refine e_iast C h t o htq (by decide) (by decide) wf_13 fw_13 hRtq (iv_in i124 (by decide)) (iv_w i20 (by decide)) dX7_append_38 (fun R127 f125 erR127 H locs h tf125 of125 hq hn_ k126 => ?_)
            have k128 := atp.tg k_u0_0 hq hu0 (by decide)
            have k129 := atp.tg k_u0_1 hq hu0 (by decide)
            have k131 := FX.up hfx hn_ (by simp)
            refine lv_aload_n hx hb dX7_append_39 rfl (lv_at hl 2 rfl) ?_
            refine lv_dup hx hb dX7_append_40 rfl ?_
            refine t_getfd C h tf125 hu0 (by decide) wf_11 (v := .int ln) k128 fl_X7_18 dX7_append_41 ?_
            refine lv_iconst (v := 1) hx hb dX7_append_44 (by decide) ?_
            refine i_addk hx hb dX7_append_45 i124 (k := 1) rfl (lo := 1) (hi := 200) (by decide) (fun z132 ez132 mz132 iz132 => ?_)
            refine t_put C h tf125 of125 hu0 (by decide) (by decide) (by decide) wf_11 fw_11 (k := 0) rfl flw_X7_18 (Or.inr ⟨_, _, _, rfl, rfl⟩) (v := .int z132) rfl rfl ⟨_, rfl, (iv_w iz132 (by decide))⟩ dX7_append_46 (fun f133 H locs h tf133 of133 hq ha_ hn_ hk_ => ?_)
            have k135 := hk_ 1 _ (by decide) k129
            have k136 := FX.up k131 hn_ (by simp)
            have k137 := atp.tg k126 hq htq (by decide)
            have k138 := ha_
            refine lv_iinc (v := 8) (lv' := [(2, .int 8), (3, .int z15), (0, .ref u0), (1, .int u1)]) hx hb dX7_append_49 hl (k := 1) rfl (by decide) (by decide) rfl (fun ls hl => ?_)
            refine lv_goto (tgt := 3) hx hb dX7_append_52 (by decide) ?_
            refine lv_iload_n hx hb dX7_append_3 rfl (lv_at hl 0 rfl) ?_
            refine lv_if_lt (tgt := 55) hx hb dX7_append_4 (by decide) (fun c139 => ?_) (fun c139 => ?_)
            · exact absurd c139 (by decide)
            · refine lv_iload_n hx hb dX7_append_7 rfl (lv_at hl 3 rfl) ?_
              refine lv_iload_n hx hb dX7_append_8 rfl (lv_at hl 0 rfl) ?_
              refine lv_iushr hx hb dX7_append_9 rfl (i_top (iv_any _) (fun z142 ez142 iz142 => ?_))
              refine lv_sipush (v := 255) hx hb dX7_append_10 (by decide) ?_
              refine lv_iand hx hb dX7_append_13 (i_top (iv_and (k := 255) rfl (by decide)) (fun z143 ez143 iz143 => ?_))
              have mz143 : z143.toInt = bt u1 8 := by rw [ez143, ez142]; exact bt_u8 _
              refine lv_istore_n (lv' := [(3, .int z143), (2, .int 8), (0, .ref u0), (1, .int u1)]) hx hb dX7_append_14 rfl hl (by decide) rfl (fun ls hl => ?_)
              refine lv_iload_n hx hb dX7_append_15 rfl (lv_at hl 0 rfl) ?_
              refine lv_if_eq (tgt := 49) hx hb dX7_append_16 (by decide) (fun c144 => ?_) (fun c144 => ?_)
              · have c145 : z143.toInt = 0 := congrArg Int32.toInt c144
                have i146 : iv z143 0 0 := iv_Q c145 iz143 (iv_k (x := 0) (k := 0) rfl) (by decide)
                refine lv_iinc (v := 0) (lv' := [(2, .int 0), (3, .int z143), (0, .ref u0), (1, .int u1)]) hx hb dX7_append_49 hl (k := 1) rfl (by decide) (by decide) rfl (fun ls hl => ?_)
                refine lv_goto (tgt := 3) hx hb dX7_append_52 (by decide) ?_
                refine lv_iload_n hx hb dX7_append_3 rfl (lv_at hl 0 rfl) ?_
                refine lv_if_lt (tgt := 55) hx hb dX7_append_4 (by decide) (fun c149 => ?_) (fun c149 => ?_)
                · exact absurd c149 (by decide)
                · refine lv_iload_n hx hb dX7_append_7 rfl (lv_at hl 3 rfl) ?_
                  refine lv_iload_n hx hb dX7_append_8 rfl (lv_at hl 0 rfl) ?_
                  refine lv_iushr hx hb dX7_append_9 rfl (i_top (iv_any _) (fun z152 ez152 iz152 => ?_))
                  refine lv_sipush (v := 255) hx hb dX7_append_10 (by decide) ?_
                  refine lv_iand hx hb dX7_append_13 (i_top (iv_and (k := 255) rfl (by decide)) (fun z153 ez153 iz153 => ?_))
                  have mz153 : z153.toInt = bt u1 0 := by rw [ez153, ez152]; exact bt_u0 _
                  refine lv_istore_n (lv' := [(3, .int z153), (2, .int 0), (0, .ref u0), (1, .int u1)]) hx hb dX7_append_14 rfl hl (by decide) rfl (fun ls hl => ?_)
                  refine lv_iload_n hx hb dX7_append_15 rfl (lv_at hl 0 rfl) ?_
                  refine lv_if_eq (tgt := 49) hx hb dX7_append_16 (by decide) (fun c154 => ?_) (fun c154 => ?_)
                  · have c155 : z153.toInt = 0 := congrArg Int32.toInt c154
                    have i156 : iv z153 0 0 := iv_Q c155 iz153 (iv_k (x := 0) (k := 0) rfl) (by decide)
                    refine lv_iinc (v := -8) (lv' := [(2, .int (-8)), (3, .int z153), (0, .ref u0), (1, .int u1)]) hx hb dX7_append_49 hl (k := 1) rfl (by decide) (by decide) rfl (fun ls hl => ?_)
                    refine lv_goto (tgt := 3) hx hb dX7_append_52 (by decide) ?_
                    refine lv_iload_n hx hb dX7_append_3 rfl (lv_at hl 0 rfl) ?_
                    refine lv_if_lt (tgt := 55) hx hb dX7_append_4 (by decide) (fun c159 => ?_) (fun c159 => ?_)
                    · exact u_vret C h hr hQ (⟨tf133, of133, ⟨z132, k138, (iv_w iz132 (by decide)), (by omega)⟩, ⟨R127, k137, (fun B hB k hk => by
                          have hk : (k : Int) < ln.toInt + nb u1 := hk
                          have hb24 : bt u1 24 = z5.toInt := mz5.symm
                          have hc24 : bt u1 24 = 0 := by omega
                          have hb16 : bt u1 16 = z15.toInt := mz15.symm
                          have hc16 : ¬ bt u1 16 = 0 := by omega
                          have hb8 : bt u1 8 = z143.toInt := mz143.symm
                          have hc8 : bt u1 8 = 0 := by omega
                          have hb0 : bt u1 0 = z153.toInt := mz153.symm
                          have hc0 : bt u1 0 = 0 := by omega
                          simp only [a4, a1, if_pos hc24, if_neg hc16, if_pos hc8, if_pos hc0]
                          rw [erR127]; by_cases q_ : k = ln.toInt.toNat
                          · rw [upd_at q_, if_pos (by omega), hb16]
                          · rw [upd_off q_, if_neg (by omega)]
                            exact hB k (by omega))⟩, k136⟩) (Nat.le_of_ble_eq_true rfl) (Nat.le_of_ble_eq_true rfl) dX7_append_55
                    · exact absurd c159 (by decide)
                  · have c157 : z153.toInt ≠ 0 := fun z_ => c154 (Int32.toInt_inj.mp z_)
                    have i158 : iv z153 1 255 := iv_Nl c157 iz153 (by decide)
                    refine lv_aload_n hx hb dX7_append_19 rfl (lv_at hl 2 rfl) ?_
                    refine t_getfd C h tf133 hu0 (by decide) wf_11 (v := .int z132) k138 fl_X7_18 dX7_append_20 ?_
                    refine lv_sipush (v := 200) hx hb dX7_append_23 (by decide) ?_
                    refine lv_icmp_ge (tgt := 49) hx hb dX7_append_26 (by decide) (fun c162 => ?_) (fun c162 => ?_)
                    · have c163 : 200 ≤ z132.toInt := Int32.le_iff_toInt_le.mp c162
                      have i164 : iv z132 200 200 := iv_Er c163 (iv_k (x := 200) (k := 200) rfl) iz132 (by decide)
                      exfalso; omega
                    · have c165 : z132.toInt < 200 := Int32.lt_iff_toInt_lt.mp (iv_nle c162)
                      have i166 : iv z132 1 199 := iv_Ll c165 iz132 (iv_k (x := 200) (k := 200) rfl) (by decide)
                      refine lv_aload_n hx hb dX7_append_29 rfl (lv_at hl 2 rfl) ?_
                      refine t_getfd C h tf133 hu0 (by decide) wf_11 (v := .ref tq) k135 fl_X7_11 dX7_append_30 ?_
                      refine lv_aload_n hx hb dX7_append_33 rfl (lv_at hl 2 rfl) ?_
                      refine t_getfd C h tf133 hu0 (by decide) wf_11 (v := .int z132) k138 fl_X7_18 dX7_append_34 ?_
                      refine lv_iload_n hx hb dX7_append_37 rfl (lv_at hl 0 rfl) ?_
                      refine e_iast C h tf133 of133 htq (by decide) (by decide) wf_13 fw_13 k137 (iv_in i166 (by decide)) (iv_w i158 (by decide)) dX7_append_38 (fun R169 f167 erR169 H locs h tf167 of167 hq hn_ k168 => ?_)
                      have k170 := atp.tg k135 hq hu0 (by decide)
                      have k171 := FX.up k136 hn_ (by simp)
                      have k173 := atp.tg k138 hq hu0 (by decide)
                      refine lv_aload_n hx hb dX7_append_39 rfl (lv_at hl 2 rfl) ?_
                      refine lv_dup hx hb dX7_append_40 rfl ?_
                      refine t_getfd C h tf167 hu0 (by decide) wf_11 (v := .int z132) k173 fl_X7_18 dX7_append_41 ?_
                      refine lv_iconst (v := 1) hx hb dX7_append_44 (by decide) ?_
                      refine i_addk hx hb dX7_append_45 i166 (k := 1) rfl (lo := 2) (hi := 200) (by decide) (fun z174 ez174 mz174 iz174 => ?_)
                      refine t_put C h tf167 of167 hu0 (by decide) (by decide) (by decide) wf_11 fw_11 (k := 0) rfl flw_X7_18 (Or.inr ⟨_, _, _, rfl, rfl⟩) (v := .int z174) rfl rfl ⟨_, rfl, (iv_w iz174 (by decide))⟩ dX7_append_46 (fun f175 H locs h tf175 of175 hq ha_ hn_ hk_ => ?_)
                      have k176 := hk_ 1 _ (by decide) k170
                      have k177 := FX.up k171 hn_ (by simp)
                      have k179 := atp.tg k168 hq htq (by decide)
                      have k180 := ha_
                      refine lv_iinc (v := -8) (lv' := [(2, .int (-8)), (3, .int z153), (0, .ref u0), (1, .int u1)]) hx hb dX7_append_49 hl (k := 1) rfl (by decide) (by decide) rfl (fun ls hl => ?_)
                      refine lv_goto (tgt := 3) hx hb dX7_append_52 (by decide) ?_
                      refine lv_iload_n hx hb dX7_append_3 rfl (lv_at hl 0 rfl) ?_
                      refine lv_if_lt (tgt := 55) hx hb dX7_append_4 (by decide) (fun c181 => ?_) (fun c181 => ?_)
                      · exact u_vret C h hr hQ (⟨tf175, of175, ⟨z174, k180, (iv_w iz174 (by decide)), (by omega)⟩, ⟨R169, k179, (fun B hB k hk => by
                            have hk : (k : Int) < ln.toInt + nb u1 := hk
                            have hb24 : bt u1 24 = z5.toInt := mz5.symm
                            have hc24 : bt u1 24 = 0 := by omega
                            have hb16 : bt u1 16 = z15.toInt := mz15.symm
                            have hc16 : ¬ bt u1 16 = 0 := by omega
                            have hb8 : bt u1 8 = z143.toInt := mz143.symm
                            have hc8 : bt u1 8 = 0 := by omega
                            have hb0 : bt u1 0 = z153.toInt := mz153.symm
                            have hc0 : ¬ bt u1 0 = 0 := by omega
                            simp only [a4, a1, if_pos hc24, if_neg hc16, if_pos hc8, if_neg hc0]
                            rw [erR169]; by_cases q_ : k = z132.toInt.toNat
                            · rw [upd_at q_, if_pos (by omega), hb0]
                            · rw [upd_off q_, if_neg (by omega)]
                              rw [erR127]; by_cases q_ : k = ln.toInt.toNat
                              · rw [upd_at q_, if_pos (by omega), hb16]
                              · rw [upd_off q_, if_neg (by omega)]
                                exact hB k (by omega))⟩, k177⟩) (Nat.le_of_ble_eq_true rfl) (Nat.le_of_ble_eq_true rfl) dX7_append_55
                      · exact absurd c181 (by decide)
              · have c147 : z143.toInt ≠ 0 := fun z_ => c144 (Int32.toInt_inj.mp z_)
                have i148 : iv z143 1 255 := iv_Nl c147 iz143 (by decide)
                refine lv_aload_n hx hb dX7_append_19 rfl (lv_at hl 2 rfl) ?_
                refine t_getfd C h tf133 hu0 (by decide) wf_11 (v := .int z132) k138 fl_X7_18 dX7_append_20 ?_
                refine lv_sipush (v := 200) hx hb dX7_append_23 (by decide) ?_
                refine lv_icmp_ge (tgt := 49) hx hb dX7_append_26 (by decide) (fun c184 => ?_) (fun c184 => ?_)
                · have c185 : 200 ≤ z132.toInt := Int32.le_iff_toInt_le.mp c184
                  have i186 : iv z132 200 200 := iv_Er c185 (iv_k (x := 200) (k := 200) rfl) iz132 (by decide)
                  exfalso; omega
                · have c187 : z132.toInt < 200 := Int32.lt_iff_toInt_lt.mp (iv_nle c184)
                  have i188 : iv z132 1 199 := iv_Ll c187 iz132 (iv_k (x := 200) (k := 200) rfl) (by decide)
                  refine lv_aload_n hx hb dX7_append_29 rfl (lv_at hl 2 rfl) ?_
                  refine t_getfd C h tf133 hu0 (by decide) wf_11 (v := .ref tq) k135 fl_X7_11 dX7_append_30 ?_
                  refine lv_aload_n hx hb dX7_append_33 rfl (lv_at hl 2 rfl) ?_
                  refine t_getfd C h tf133 hu0 (by decide) wf_11 (v := .int z132) k138 fl_X7_18 dX7_append_34 ?_
                  refine lv_iload_n hx hb dX7_append_37 rfl (lv_at hl 0 rfl) ?_
                  refine e_iast C h tf133 of133 htq (by decide) (by decide) wf_13 fw_13 k137 (iv_in i188 (by decide)) (iv_w i148 (by decide)) dX7_append_38 (fun R191 f189 erR191 H locs h tf189 of189 hq hn_ k190 => ?_)
                  have k192 := atp.tg k135 hq hu0 (by decide)
                  have k193 := FX.up k136 hn_ (by simp)
                  have k195 := atp.tg k138 hq hu0 (by decide)
                  refine lv_aload_n hx hb dX7_append_39 rfl (lv_at hl 2 rfl) ?_
                  refine lv_dup hx hb dX7_append_40 rfl ?_
                  refine t_getfd C h tf189 hu0 (by decide) wf_11 (v := .int z132) k195 fl_X7_18 dX7_append_41 ?_
                  refine lv_iconst (v := 1) hx hb dX7_append_44 (by decide) ?_
                  refine i_addk hx hb dX7_append_45 i188 (k := 1) rfl (lo := 2) (hi := 200) (by decide) (fun z196 ez196 mz196 iz196 => ?_)
                  refine t_put C h tf189 of189 hu0 (by decide) (by decide) (by decide) wf_11 fw_11 (k := 0) rfl flw_X7_18 (Or.inr ⟨_, _, _, rfl, rfl⟩) (v := .int z196) rfl rfl ⟨_, rfl, (iv_w iz196 (by decide))⟩ dX7_append_46 (fun f197 H locs h tf197 of197 hq ha_ hn_ hk_ => ?_)
                  have k198 := hk_ 1 _ (by decide) k192
                  have k199 := FX.up k193 hn_ (by simp)
                  have k201 := atp.tg k190 hq htq (by decide)
                  have k202 := ha_
                  refine lv_iinc (v := 0) (lv' := [(2, .int 0), (3, .int z143), (0, .ref u0), (1, .int u1)]) hx hb dX7_append_49 hl (k := 1) rfl (by decide) (by decide) rfl (fun ls hl => ?_)
                  refine lv_goto (tgt := 3) hx hb dX7_append_52 (by decide) ?_
                  refine lv_iload_n hx hb dX7_append_3 rfl (lv_at hl 0 rfl) ?_
                  refine lv_if_lt (tgt := 55) hx hb dX7_append_4 (by decide) (fun c203 => ?_) (fun c203 => ?_)
                  · exact absurd c203 (by decide)
                  · refine lv_iload_n hx hb dX7_append_7 rfl (lv_at hl 3 rfl) ?_
                    refine lv_iload_n hx hb dX7_append_8 rfl (lv_at hl 0 rfl) ?_
                    refine lv_iushr hx hb dX7_append_9 rfl (i_top (iv_any _) (fun z206 ez206 iz206 => ?_))
                    refine lv_sipush (v := 255) hx hb dX7_append_10 (by decide) ?_
                    refine lv_iand hx hb dX7_append_13 (i_top (iv_and (k := 255) rfl (by decide)) (fun z207 ez207 iz207 => ?_))
                    have mz207 : z207.toInt = bt u1 0 := by rw [ez207, ez206]; exact bt_u0 _
                    refine lv_istore_n (lv' := [(3, .int z207), (2, .int 0), (0, .ref u0), (1, .int u1)]) hx hb dX7_append_14 rfl hl (by decide) rfl (fun ls hl => ?_)
                    refine lv_iload_n hx hb dX7_append_15 rfl (lv_at hl 0 rfl) ?_
                    refine lv_if_eq (tgt := 49) hx hb dX7_append_16 (by decide) (fun c208 => ?_) (fun c208 => ?_)
                    · have c209 : z207.toInt = 0 := congrArg Int32.toInt c208
                      have i210 : iv z207 0 0 := iv_Q c209 iz207 (iv_k (x := 0) (k := 0) rfl) (by decide)
                      refine lv_iinc (v := -8) (lv' := [(2, .int (-8)), (3, .int z207), (0, .ref u0), (1, .int u1)]) hx hb dX7_append_49 hl (k := 1) rfl (by decide) (by decide) rfl (fun ls hl => ?_)
                      refine lv_goto (tgt := 3) hx hb dX7_append_52 (by decide) ?_
                      refine lv_iload_n hx hb dX7_append_3 rfl (lv_at hl 0 rfl) ?_
                      refine lv_if_lt (tgt := 55) hx hb dX7_append_4 (by decide) (fun c213 => ?_) (fun c213 => ?_)
                      · exact u_vret C h hr hQ (⟨tf197, of197, ⟨z196, k202, (iv_w iz196 (by decide)), (by omega)⟩, ⟨R191, k201, (fun B hB k hk => by
                            have hk : (k : Int) < ln.toInt + nb u1 := hk
                            have hb24 : bt u1 24 = z5.toInt := mz5.symm
                            have hc24 : bt u1 24 = 0 := by omega
                            have hb16 : bt u1 16 = z15.toInt := mz15.symm
                            have hc16 : ¬ bt u1 16 = 0 := by omega
                            have hb8 : bt u1 8 = z143.toInt := mz143.symm
                            have hc8 : ¬ bt u1 8 = 0 := by omega
                            have hb0 : bt u1 0 = z207.toInt := mz207.symm
                            have hc0 : bt u1 0 = 0 := by omega
                            simp only [a4, a1, if_pos hc24, if_neg hc16, if_neg hc8, if_pos hc0]
                            rw [erR191]; by_cases q_ : k = z132.toInt.toNat
                            · rw [upd_at q_, if_pos (by omega), hb8]
                            · rw [upd_off q_, if_neg (by omega)]
                              rw [erR127]; by_cases q_ : k = ln.toInt.toNat
                              · rw [upd_at q_, if_pos (by omega), hb16]
                              · rw [upd_off q_, if_neg (by omega)]
                                exact hB k (by omega))⟩, k199⟩) (Nat.le_of_ble_eq_true rfl) (Nat.le_of_ble_eq_true rfl) dX7_append_55
                      · exact absurd c213 (by decide)
                    · have c211 : z207.toInt ≠ 0 := fun z_ => c208 (Int32.toInt_inj.mp z_)
                      have i212 : iv z207 1 255 := iv_Nl c211 iz207 (by decide)
                      refine lv_aload_n hx hb dX7_append_19 rfl (lv_at hl 2 rfl) ?_
                      refine t_getfd C h tf197 hu0 (by decide) wf_11 (v := .int z196) k202 fl_X7_18 dX7_append_20 ?_
                      refine lv_sipush (v := 200) hx hb dX7_append_23 (by decide) ?_
                      refine lv_icmp_ge (tgt := 49) hx hb dX7_append_26 (by decide) (fun c216 => ?_) (fun c216 => ?_)
                      · have c217 : 200 ≤ z196.toInt := Int32.le_iff_toInt_le.mp c216
                        have i218 : iv z196 200 200 := iv_Er c217 (iv_k (x := 200) (k := 200) rfl) iz196 (by decide)
                        exfalso; omega
                      · have c219 : z196.toInt < 200 := Int32.lt_iff_toInt_lt.mp (iv_nle c216)
                        have i220 : iv z196 2 199 := iv_Ll c219 iz196 (iv_k (x := 200) (k := 200) rfl) (by decide)
                        refine lv_aload_n hx hb dX7_append_29 rfl (lv_at hl 2 rfl) ?_
                        refine t_getfd C h tf197 hu0 (by decide) wf_11 (v := .ref tq) k198 fl_X7_11 dX7_append_30 ?_
                        refine lv_aload_n hx hb dX7_append_33 rfl (lv_at hl 2 rfl) ?_
                        refine t_getfd C h tf197 hu0 (by decide) wf_11 (v := .int z196) k202 fl_X7_18 dX7_append_34 ?_
                        refine lv_iload_n hx hb dX7_append_37 rfl (lv_at hl 0 rfl) ?_
                        refine e_iast C h tf197 of197 htq (by decide) (by decide) wf_13 fw_13 k201 (iv_in i220 (by decide)) (iv_w i212 (by decide)) dX7_append_38 (fun R223 f221 erR223 H locs h tf221 of221 hq hn_ k222 => ?_)
                        have k224 := atp.tg k198 hq hu0 (by decide)
                        have k225 := FX.up k199 hn_ (by simp)
                        have k227 := atp.tg k202 hq hu0 (by decide)
                        refine lv_aload_n hx hb dX7_append_39 rfl (lv_at hl 2 rfl) ?_
                        refine lv_dup hx hb dX7_append_40 rfl ?_
                        refine t_getfd C h tf221 hu0 (by decide) wf_11 (v := .int z196) k227 fl_X7_18 dX7_append_41 ?_
                        refine lv_iconst (v := 1) hx hb dX7_append_44 (by decide) ?_
                        refine i_addk hx hb dX7_append_45 i220 (k := 1) rfl (lo := 3) (hi := 200) (by decide) (fun z228 ez228 mz228 iz228 => ?_)
                        refine t_put C h tf221 of221 hu0 (by decide) (by decide) (by decide) wf_11 fw_11 (k := 0) rfl flw_X7_18 (Or.inr ⟨_, _, _, rfl, rfl⟩) (v := .int z228) rfl rfl ⟨_, rfl, (iv_w iz228 (by decide))⟩ dX7_append_46 (fun f229 H locs h tf229 of229 hq ha_ hn_ hk_ => ?_)
                        have k230 := hk_ 1 _ (by decide) k224
                        have k231 := FX.up k225 hn_ (by simp)
                        have k233 := atp.tg k222 hq htq (by decide)
                        have k234 := ha_
                        refine lv_iinc (v := -8) (lv' := [(2, .int (-8)), (3, .int z207), (0, .ref u0), (1, .int u1)]) hx hb dX7_append_49 hl (k := 1) rfl (by decide) (by decide) rfl (fun ls hl => ?_)
                        refine lv_goto (tgt := 3) hx hb dX7_append_52 (by decide) ?_
                        refine lv_iload_n hx hb dX7_append_3 rfl (lv_at hl 0 rfl) ?_
                        refine lv_if_lt (tgt := 55) hx hb dX7_append_4 (by decide) (fun c235 => ?_) (fun c235 => ?_)
                        · exact u_vret C h hr hQ (⟨tf229, of229, ⟨z228, k234, (iv_w iz228 (by decide)), (by omega)⟩, ⟨R223, k233, (fun B hB k hk => by
                              have hk : (k : Int) < ln.toInt + nb u1 := hk
                              have hb24 : bt u1 24 = z5.toInt := mz5.symm
                              have hc24 : bt u1 24 = 0 := by omega
                              have hb16 : bt u1 16 = z15.toInt := mz15.symm
                              have hc16 : ¬ bt u1 16 = 0 := by omega
                              have hb8 : bt u1 8 = z143.toInt := mz143.symm
                              have hc8 : ¬ bt u1 8 = 0 := by omega
                              have hb0 : bt u1 0 = z207.toInt := mz207.symm
                              have hc0 : ¬ bt u1 0 = 0 := by omega
                              simp only [a4, a1, if_pos hc24, if_neg hc16, if_neg hc8, if_neg hc0]
                              rw [erR223]; by_cases q_ : k = z196.toInt.toNat
                              · rw [upd_at q_, if_pos (by omega), hb0]
                              · rw [upd_off q_, if_neg (by omega)]
                                rw [erR191]; by_cases q_ : k = z132.toInt.toNat
                                · rw [upd_at q_, if_pos (by omega), hb8]
                                · rw [upd_off q_, if_neg (by omega)]
                                  rw [erR127]; by_cases q_ : k = ln.toInt.toNat
                                  · rw [upd_at q_, if_pos (by omega), hb16]
                                  · rw [upd_off q_, if_neg (by omega)]
                                    exact hB k (by omega))⟩, k231⟩) (Nat.le_of_ble_eq_true rfl) (Nat.le_of_ble_eq_true rfl) dX7_append_55
                        · exact absurd c235 (by decide)
    · have c9 : z5.toInt ≠ 0 := fun z_ => c6 (Int32.toInt_inj.mp z_)
      have i10 : iv z5 1 255 := iv_Nl c9 iz5 (by decide)
      refine lv_aload_n hx hb dX7_append_19 rfl (lv_at hl 2 rfl) ?_
      refine t_getfd C h t hu0 (by decide) wf_11 (v := .int ln) k_u0_0 fl_X7_18 dX7_append_20 ?_
      refine lv_sipush (v := 200) hx hb dX7_append_23 (by decide) ?_
      refine lv_icmp_ge (tgt := 49) hx hb dX7_append_26 (by decide) (fun c238 => ?_) (fun c238 => ?_)
      · have c239 : 200 ≤ ln.toInt := Int32.le_iff_toInt_le.mp c238
        have i240 : iv ln 200 200 := iv_Er c239 (iv_k (x := 200) (k := 200) rfl) hln (by decide)
        exfalso; omega
      · have c241 : ln.toInt < 200 := Int32.lt_iff_toInt_lt.mp (iv_nle c238)
        have i242 : iv ln 0 199 := iv_Ll c241 hln (iv_k (x := 200) (k := 200) rfl) (by decide)
        refine lv_aload_n hx hb dX7_append_29 rfl (lv_at hl 2 rfl) ?_
        refine t_getfd C h t hu0 (by decide) wf_11 (v := .ref tq) k_u0_1 fl_X7_11 dX7_append_30 ?_
        refine lv_aload_n hx hb dX7_append_33 rfl (lv_at hl 2 rfl) ?_
        refine t_getfd C h t hu0 (by decide) wf_11 (v := .int ln) k_u0_0 fl_X7_18 dX7_append_34 ?_
        refine lv_iload_n hx hb dX7_append_37 rfl (lv_at hl 0 rfl) ?_
        refine e_iast C h t o htq (by decide) (by decide) wf_13 fw_13 hRtq (iv_in i242 (by decide)) (iv_w i10 (by decide)) dX7_append_38 (fun R245 f243 erR245 H locs h tf243 of243 hq hn_ k244 => ?_)
        have k246 := atp.tg k_u0_0 hq hu0 (by decide)
        have k247 := atp.tg k_u0_1 hq hu0 (by decide)
        have k249 := FX.up hfx hn_ (by simp)
        refine lv_aload_n hx hb dX7_append_39 rfl (lv_at hl 2 rfl) ?_
        refine lv_dup hx hb dX7_append_40 rfl ?_
        refine t_getfd C h tf243 hu0 (by decide) wf_11 (v := .int ln) k246 fl_X7_18 dX7_append_41 ?_
        refine lv_iconst (v := 1) hx hb dX7_append_44 (by decide) ?_
        refine i_addk hx hb dX7_append_45 i242 (k := 1) rfl (lo := 1) (hi := 200) (by decide) (fun z250 ez250 mz250 iz250 => ?_)
        refine t_put C h tf243 of243 hu0 (by decide) (by decide) (by decide) wf_11 fw_11 (k := 0) rfl flw_X7_18 (Or.inr ⟨_, _, _, rfl, rfl⟩) (v := .int z250) rfl rfl ⟨_, rfl, (iv_w iz250 (by decide))⟩ dX7_append_46 (fun f251 H locs h tf251 of251 hq ha_ hn_ hk_ => ?_)
        have k253 := hk_ 1 _ (by decide) k247
        have k254 := FX.up k249 hn_ (by simp)
        have k255 := atp.tg k244 hq htq (by decide)
        have k256 := ha_
        refine lv_iinc (v := 16) (lv' := [(2, .int 16), (3, .int z5), (0, .ref u0), (1, .int u1)]) hx hb dX7_append_49 hl (k := 1) rfl (by decide) (by decide) rfl (fun ls hl => ?_)
        refine lv_goto (tgt := 3) hx hb dX7_append_52 (by decide) ?_
        refine lv_iload_n hx hb dX7_append_3 rfl (lv_at hl 0 rfl) ?_
        refine lv_if_lt (tgt := 55) hx hb dX7_append_4 (by decide) (fun c257 => ?_) (fun c257 => ?_)
        · exact absurd c257 (by decide)
        · refine lv_iload_n hx hb dX7_append_7 rfl (lv_at hl 3 rfl) ?_
          refine lv_iload_n hx hb dX7_append_8 rfl (lv_at hl 0 rfl) ?_
          refine lv_iushr hx hb dX7_append_9 rfl (i_top (iv_any _) (fun z260 ez260 iz260 => ?_))
          refine lv_sipush (v := 255) hx hb dX7_append_10 (by decide) ?_
          refine lv_iand hx hb dX7_append_13 (i_top (iv_and (k := 255) rfl (by decide)) (fun z261 ez261 iz261 => ?_))
          have mz261 : z261.toInt = bt u1 16 := by rw [ez261, ez260]; exact bt_u16 _
          refine lv_istore_n (lv' := [(3, .int z261), (2, .int 16), (0, .ref u0), (1, .int u1)]) hx hb dX7_append_14 rfl hl (by decide) rfl (fun ls hl => ?_)
          refine lv_iload_n hx hb dX7_append_15 rfl (lv_at hl 0 rfl) ?_
          refine lv_if_eq (tgt := 49) hx hb dX7_append_16 (by decide) (fun c262 => ?_) (fun c262 => ?_)
          · have c263 : z261.toInt = 0 := congrArg Int32.toInt c262
            have i264 : iv z261 0 0 := iv_Q c263 iz261 (iv_k (x := 0) (k := 0) rfl) (by decide)
            refine lv_iinc (v := 8) (lv' := [(2, .int 8), (3, .int z261), (0, .ref u0), (1, .int u1)]) hx hb dX7_append_49 hl (k := 1) rfl (by decide) (by decide) rfl (fun ls hl => ?_)
            refine lv_goto (tgt := 3) hx hb dX7_append_52 (by decide) ?_
            refine lv_iload_n hx hb dX7_append_3 rfl (lv_at hl 0 rfl) ?_
            refine lv_if_lt (tgt := 55) hx hb dX7_append_4 (by decide) (fun c267 => ?_) (fun c267 => ?_)
            · exact absurd c267 (by decide)
            · refine lv_iload_n hx hb dX7_append_7 rfl (lv_at hl 3 rfl) ?_
              refine lv_iload_n hx hb dX7_append_8 rfl (lv_at hl 0 rfl) ?_
              refine lv_iushr hx hb dX7_append_9 rfl (i_top (iv_any _) (fun z270 ez270 iz270 => ?_))
              refine lv_sipush (v := 255) hx hb dX7_append_10 (by decide) ?_
              refine lv_iand hx hb dX7_append_13 (i_top (iv_and (k := 255) rfl (by decide)) (fun z271 ez271 iz271 => ?_))
              have mz271 : z271.toInt = bt u1 8 := by rw [ez271, ez270]; exact bt_u8 _
              refine lv_istore_n (lv' := [(3, .int z271), (2, .int 8), (0, .ref u0), (1, .int u1)]) hx hb dX7_append_14 rfl hl (by decide) rfl (fun ls hl => ?_)
              refine lv_iload_n hx hb dX7_append_15 rfl (lv_at hl 0 rfl) ?_
              refine lv_if_eq (tgt := 49) hx hb dX7_append_16 (by decide) (fun c272 => ?_) (fun c272 => ?_)
              · have c273 : z271.toInt = 0 := congrArg Int32.toInt c272
                have i274 : iv z271 0 0 := iv_Q c273 iz271 (iv_k (x := 0) (k := 0) rfl) (by decide)
                refine lv_iinc (v := 0) (lv' := [(2, .int 0), (3, .int z271), (0, .ref u0), (1, .int u1)]) hx hb dX7_append_49 hl (k := 1) rfl (by decide) (by decide) rfl (fun ls hl => ?_)
                refine lv_goto (tgt := 3) hx hb dX7_append_52 (by decide) ?_
                refine lv_iload_n hx hb dX7_append_3 rfl (lv_at hl 0 rfl) ?_
                refine lv_if_lt (tgt := 55) hx hb dX7_append_4 (by decide) (fun c277 => ?_) (fun c277 => ?_)
                · exact absurd c277 (by decide)
                · refine lv_iload_n hx hb dX7_append_7 rfl (lv_at hl 3 rfl) ?_
                  refine lv_iload_n hx hb dX7_append_8 rfl (lv_at hl 0 rfl) ?_
                  refine lv_iushr hx hb dX7_append_9 rfl (i_top (iv_any _) (fun z280 ez280 iz280 => ?_))
                  refine lv_sipush (v := 255) hx hb dX7_append_10 (by decide) ?_
                  refine lv_iand hx hb dX7_append_13 (i_top (iv_and (k := 255) rfl (by decide)) (fun z281 ez281 iz281 => ?_))
                  have mz281 : z281.toInt = bt u1 0 := by rw [ez281, ez280]; exact bt_u0 _
                  refine lv_istore_n (lv' := [(3, .int z281), (2, .int 0), (0, .ref u0), (1, .int u1)]) hx hb dX7_append_14 rfl hl (by decide) rfl (fun ls hl => ?_)
                  refine lv_iload_n hx hb dX7_append_15 rfl (lv_at hl 0 rfl) ?_
                  refine lv_if_eq (tgt := 49) hx hb dX7_append_16 (by decide) (fun c282 => ?_) (fun c282 => ?_)
                  · have c283 : z281.toInt = 0 := congrArg Int32.toInt c282
                    have i284 : iv z281 0 0 := iv_Q c283 iz281 (iv_k (x := 0) (k := 0) rfl) (by decide)
                    refine lv_iinc (v := -8) (lv' := [(2, .int (-8)), (3, .int z281), (0, .ref u0), (1, .int u1)]) hx hb dX7_append_49 hl (k := 1) rfl (by decide) (by decide) rfl (fun ls hl => ?_)
                    refine lv_goto (tgt := 3) hx hb dX7_append_52 (by decide) ?_
                    refine lv_iload_n hx hb dX7_append_3 rfl (lv_at hl 0 rfl) ?_
                    refine lv_if_lt (tgt := 55) hx hb dX7_append_4 (by decide) (fun c287 => ?_) (fun c287 => ?_)
                    · exact u_vret C h hr hQ (⟨tf251, of251, ⟨z250, k256, (iv_w iz250 (by decide)), (by omega)⟩, ⟨R245, k255, (fun B hB k hk => by
                          have hk : (k : Int) < ln.toInt + nb u1 := hk
                          have hb24 : bt u1 24 = z5.toInt := mz5.symm
                          have hc24 : ¬ bt u1 24 = 0 := by omega
                          have hb16 : bt u1 16 = z261.toInt := mz261.symm
                          have hc16 : bt u1 16 = 0 := by omega
                          have hb8 : bt u1 8 = z271.toInt := mz271.symm
                          have hc8 : bt u1 8 = 0 := by omega
                          have hb0 : bt u1 0 = z281.toInt := mz281.symm
                          have hc0 : bt u1 0 = 0 := by omega
                          simp only [a4, a1, if_neg hc24, if_pos hc16, if_pos hc8, if_pos hc0]
                          rw [erR245]; by_cases q_ : k = ln.toInt.toNat
                          · rw [upd_at q_, if_pos (by omega), hb24]
                          · rw [upd_off q_, if_neg (by omega)]
                            exact hB k (by omega))⟩, k254⟩) (Nat.le_of_ble_eq_true rfl) (Nat.le_of_ble_eq_true rfl) dX7_append_55
                    · exact absurd c287 (by decide)
                  · have c285 : z281.toInt ≠ 0 := fun z_ => c282 (Int32.toInt_inj.mp z_)
                    have i286 : iv z281 1 255 := iv_Nl c285 iz281 (by decide)
                    refine lv_aload_n hx hb dX7_append_19 rfl (lv_at hl 2 rfl) ?_
                    refine t_getfd C h tf251 hu0 (by decide) wf_11 (v := .int z250) k256 fl_X7_18 dX7_append_20 ?_
                    refine lv_sipush (v := 200) hx hb dX7_append_23 (by decide) ?_
                    refine lv_icmp_ge (tgt := 49) hx hb dX7_append_26 (by decide) (fun c290 => ?_) (fun c290 => ?_)
                    · have c291 : 200 ≤ z250.toInt := Int32.le_iff_toInt_le.mp c290
                      have i292 : iv z250 200 200 := iv_Er c291 (iv_k (x := 200) (k := 200) rfl) iz250 (by decide)
                      exfalso; omega
                    · have c293 : z250.toInt < 200 := Int32.lt_iff_toInt_lt.mp (iv_nle c290)
                      have i294 : iv z250 1 199 := iv_Ll c293 iz250 (iv_k (x := 200) (k := 200) rfl) (by decide)
                      refine lv_aload_n hx hb dX7_append_29 rfl (lv_at hl 2 rfl) ?_
                      refine t_getfd C h tf251 hu0 (by decide) wf_11 (v := .ref tq) k253 fl_X7_11 dX7_append_30 ?_
                      refine lv_aload_n hx hb dX7_append_33 rfl (lv_at hl 2 rfl) ?_
                      refine t_getfd C h tf251 hu0 (by decide) wf_11 (v := .int z250) k256 fl_X7_18 dX7_append_34 ?_
                      refine lv_iload_n hx hb dX7_append_37 rfl (lv_at hl 0 rfl) ?_
                      refine e_iast C h tf251 of251 htq (by decide) (by decide) wf_13 fw_13 k255 (iv_in i294 (by decide)) (iv_w i286 (by decide)) dX7_append_38 (fun R297 f295 erR297 H locs h tf295 of295 hq hn_ k296 => ?_)
                      have k298 := atp.tg k253 hq hu0 (by decide)
                      have k299 := FX.up k254 hn_ (by simp)
                      have k301 := atp.tg k256 hq hu0 (by decide)
                      refine lv_aload_n hx hb dX7_append_39 rfl (lv_at hl 2 rfl) ?_
                      refine lv_dup hx hb dX7_append_40 rfl ?_
                      refine t_getfd C h tf295 hu0 (by decide) wf_11 (v := .int z250) k301 fl_X7_18 dX7_append_41 ?_
                      refine lv_iconst (v := 1) hx hb dX7_append_44 (by decide) ?_
                      refine i_addk hx hb dX7_append_45 i294 (k := 1) rfl (lo := 2) (hi := 200) (by decide) (fun z302 ez302 mz302 iz302 => ?_)
                      refine t_put C h tf295 of295 hu0 (by decide) (by decide) (by decide) wf_11 fw_11 (k := 0) rfl flw_X7_18 (Or.inr ⟨_, _, _, rfl, rfl⟩) (v := .int z302) rfl rfl ⟨_, rfl, (iv_w iz302 (by decide))⟩ dX7_append_46 (fun f303 H locs h tf303 of303 hq ha_ hn_ hk_ => ?_)
                      have k304 := hk_ 1 _ (by decide) k298
                      have k305 := FX.up k299 hn_ (by simp)
                      have k307 := atp.tg k296 hq htq (by decide)
                      have k308 := ha_
                      refine lv_iinc (v := -8) (lv' := [(2, .int (-8)), (3, .int z281), (0, .ref u0), (1, .int u1)]) hx hb dX7_append_49 hl (k := 1) rfl (by decide) (by decide) rfl (fun ls hl => ?_)
                      refine lv_goto (tgt := 3) hx hb dX7_append_52 (by decide) ?_
                      refine lv_iload_n hx hb dX7_append_3 rfl (lv_at hl 0 rfl) ?_
                      refine lv_if_lt (tgt := 55) hx hb dX7_append_4 (by decide) (fun c309 => ?_) (fun c309 => ?_)
                      · exact u_vret C h hr hQ (⟨tf303, of303, ⟨z302, k308, (iv_w iz302 (by decide)), (by omega)⟩, ⟨R297, k307, (fun B hB k hk => by
                            have hk : (k : Int) < ln.toInt + nb u1 := hk
                            have hb24 : bt u1 24 = z5.toInt := mz5.symm
                            have hc24 : ¬ bt u1 24 = 0 := by omega
                            have hb16 : bt u1 16 = z261.toInt := mz261.symm
                            have hc16 : bt u1 16 = 0 := by omega
                            have hb8 : bt u1 8 = z271.toInt := mz271.symm
                            have hc8 : bt u1 8 = 0 := by omega
                            have hb0 : bt u1 0 = z281.toInt := mz281.symm
                            have hc0 : ¬ bt u1 0 = 0 := by omega
                            simp only [a4, a1, if_neg hc24, if_pos hc16, if_pos hc8, if_neg hc0]
                            rw [erR297]; by_cases q_ : k = z250.toInt.toNat
                            · rw [upd_at q_, if_pos (by omega), hb0]
                            · rw [upd_off q_, if_neg (by omega)]
                              rw [erR245]; by_cases q_ : k = ln.toInt.toNat
                              · rw [upd_at q_, if_pos (by omega), hb24]
                              · rw [upd_off q_, if_neg (by omega)]
                                exact hB k (by omega))⟩, k305⟩) (Nat.le_of_ble_eq_true rfl) (Nat.le_of_ble_eq_true rfl) dX7_append_55
                      · exact absurd c309 (by decide)
              · have c275 : z271.toInt ≠ 0 := fun z_ => c272 (Int32.toInt_inj.mp z_)
                have i276 : iv z271 1 255 := iv_Nl c275 iz271 (by decide)
                refine lv_aload_n hx hb dX7_append_19 rfl (lv_at hl 2 rfl) ?_
                refine t_getfd C h tf251 hu0 (by decide) wf_11 (v := .int z250) k256 fl_X7_18 dX7_append_20 ?_
                refine lv_sipush (v := 200) hx hb dX7_append_23 (by decide) ?_
                refine lv_icmp_ge (tgt := 49) hx hb dX7_append_26 (by decide) (fun c312 => ?_) (fun c312 => ?_)
                · have c313 : 200 ≤ z250.toInt := Int32.le_iff_toInt_le.mp c312
                  have i314 : iv z250 200 200 := iv_Er c313 (iv_k (x := 200) (k := 200) rfl) iz250 (by decide)
                  exfalso; omega
                · have c315 : z250.toInt < 200 := Int32.lt_iff_toInt_lt.mp (iv_nle c312)
                  have i316 : iv z250 1 199 := iv_Ll c315 iz250 (iv_k (x := 200) (k := 200) rfl) (by decide)
                  refine lv_aload_n hx hb dX7_append_29 rfl (lv_at hl 2 rfl) ?_
                  refine t_getfd C h tf251 hu0 (by decide) wf_11 (v := .ref tq) k253 fl_X7_11 dX7_append_30 ?_
                  refine lv_aload_n hx hb dX7_append_33 rfl (lv_at hl 2 rfl) ?_
                  refine t_getfd C h tf251 hu0 (by decide) wf_11 (v := .int z250) k256 fl_X7_18 dX7_append_34 ?_
                  refine lv_iload_n hx hb dX7_append_37 rfl (lv_at hl 0 rfl) ?_
                  refine e_iast C h tf251 of251 htq (by decide) (by decide) wf_13 fw_13 k255 (iv_in i316 (by decide)) (iv_w i276 (by decide)) dX7_append_38 (fun R319 f317 erR319 H locs h tf317 of317 hq hn_ k318 => ?_)
                  have k320 := atp.tg k253 hq hu0 (by decide)
                  have k321 := FX.up k254 hn_ (by simp)
                  have k323 := atp.tg k256 hq hu0 (by decide)
                  refine lv_aload_n hx hb dX7_append_39 rfl (lv_at hl 2 rfl) ?_
                  refine lv_dup hx hb dX7_append_40 rfl ?_
                  refine t_getfd C h tf317 hu0 (by decide) wf_11 (v := .int z250) k323 fl_X7_18 dX7_append_41 ?_
                  refine lv_iconst (v := 1) hx hb dX7_append_44 (by decide) ?_
                  refine i_addk hx hb dX7_append_45 i316 (k := 1) rfl (lo := 2) (hi := 200) (by decide) (fun z324 ez324 mz324 iz324 => ?_)
                  refine t_put C h tf317 of317 hu0 (by decide) (by decide) (by decide) wf_11 fw_11 (k := 0) rfl flw_X7_18 (Or.inr ⟨_, _, _, rfl, rfl⟩) (v := .int z324) rfl rfl ⟨_, rfl, (iv_w iz324 (by decide))⟩ dX7_append_46 (fun f325 H locs h tf325 of325 hq ha_ hn_ hk_ => ?_)
                  have k326 := hk_ 1 _ (by decide) k320
                  have k327 := FX.up k321 hn_ (by simp)
                  have k329 := atp.tg k318 hq htq (by decide)
                  have k330 := ha_
                  refine lv_iinc (v := 0) (lv' := [(2, .int 0), (3, .int z271), (0, .ref u0), (1, .int u1)]) hx hb dX7_append_49 hl (k := 1) rfl (by decide) (by decide) rfl (fun ls hl => ?_)
                  refine lv_goto (tgt := 3) hx hb dX7_append_52 (by decide) ?_
                  refine lv_iload_n hx hb dX7_append_3 rfl (lv_at hl 0 rfl) ?_
                  refine lv_if_lt (tgt := 55) hx hb dX7_append_4 (by decide) (fun c331 => ?_) (fun c331 => ?_)
                  · exact absurd c331 (by decide)
                  · refine lv_iload_n hx hb dX7_append_7 rfl (lv_at hl 3 rfl) ?_
                    refine lv_iload_n hx hb dX7_append_8 rfl (lv_at hl 0 rfl) ?_
                    refine lv_iushr hx hb dX7_append_9 rfl (i_top (iv_any _) (fun z334 ez334 iz334 => ?_))
                    refine lv_sipush (v := 255) hx hb dX7_append_10 (by decide) ?_
                    refine lv_iand hx hb dX7_append_13 (i_top (iv_and (k := 255) rfl (by decide)) (fun z335 ez335 iz335 => ?_))
                    have mz335 : z335.toInt = bt u1 0 := by rw [ez335, ez334]; exact bt_u0 _
                    refine lv_istore_n (lv' := [(3, .int z335), (2, .int 0), (0, .ref u0), (1, .int u1)]) hx hb dX7_append_14 rfl hl (by decide) rfl (fun ls hl => ?_)
                    refine lv_iload_n hx hb dX7_append_15 rfl (lv_at hl 0 rfl) ?_
                    refine lv_if_eq (tgt := 49) hx hb dX7_append_16 (by decide) (fun c336 => ?_) (fun c336 => ?_)
                    · have c337 : z335.toInt = 0 := congrArg Int32.toInt c336
                      have i338 : iv z335 0 0 := iv_Q c337 iz335 (iv_k (x := 0) (k := 0) rfl) (by decide)
                      refine lv_iinc (v := -8) (lv' := [(2, .int (-8)), (3, .int z335), (0, .ref u0), (1, .int u1)]) hx hb dX7_append_49 hl (k := 1) rfl (by decide) (by decide) rfl (fun ls hl => ?_)
                      refine lv_goto (tgt := 3) hx hb dX7_append_52 (by decide) ?_
                      refine lv_iload_n hx hb dX7_append_3 rfl (lv_at hl 0 rfl) ?_
                      refine lv_if_lt (tgt := 55) hx hb dX7_append_4 (by decide) (fun c341 => ?_) (fun c341 => ?_)
                      · exact u_vret C h hr hQ (⟨tf325, of325, ⟨z324, k330, (iv_w iz324 (by decide)), (by omega)⟩, ⟨R319, k329, (fun B hB k hk => by
                            have hk : (k : Int) < ln.toInt + nb u1 := hk
                            have hb24 : bt u1 24 = z5.toInt := mz5.symm
                            have hc24 : ¬ bt u1 24 = 0 := by omega
                            have hb16 : bt u1 16 = z261.toInt := mz261.symm
                            have hc16 : bt u1 16 = 0 := by omega
                            have hb8 : bt u1 8 = z271.toInt := mz271.symm
                            have hc8 : ¬ bt u1 8 = 0 := by omega
                            have hb0 : bt u1 0 = z335.toInt := mz335.symm
                            have hc0 : bt u1 0 = 0 := by omega
                            simp only [a4, a1, if_neg hc24, if_pos hc16, if_neg hc8, if_pos hc0]
                            rw [erR319]; by_cases q_ : k = z250.toInt.toNat
                            · rw [upd_at q_, if_pos (by omega), hb8]
                            · rw [upd_off q_, if_neg (by omega)]
                              rw [erR245]; by_cases q_ : k = ln.toInt.toNat
                              · rw [upd_at q_, if_pos (by omega), hb24]
                              · rw [upd_off q_, if_neg (by omega)]
                                exact hB k (by omega))⟩, k327⟩) (Nat.le_of_ble_eq_true rfl) (Nat.le_of_ble_eq_true rfl) dX7_append_55
                      · exact absurd c341 (by decide)
                    · have c339 : z335.toInt ≠ 0 := fun z_ => c336 (Int32.toInt_inj.mp z_)
                      have i340 : iv z335 1 255 := iv_Nl c339 iz335 (by decide)
                      refine lv_aload_n hx hb dX7_append_19 rfl (lv_at hl 2 rfl) ?_
                      refine t_getfd C h tf325 hu0 (by decide) wf_11 (v := .int z324) k330 fl_X7_18 dX7_append_20 ?_
                      refine lv_sipush (v := 200) hx hb dX7_append_23 (by decide) ?_
                      refine lv_icmp_ge (tgt := 49) hx hb dX7_append_26 (by decide) (fun c344 => ?_) (fun c344 => ?_)
                      · have c345 : 200 ≤ z324.toInt := Int32.le_iff_toInt_le.mp c344
                        have i346 : iv z324 200 200 := iv_Er c345 (iv_k (x := 200) (k := 200) rfl) iz324 (by decide)
                        exfalso; omega
                      · have c347 : z324.toInt < 200 := Int32.lt_iff_toInt_lt.mp (iv_nle c344)
                        have i348 : iv z324 2 199 := iv_Ll c347 iz324 (iv_k (x := 200) (k := 200) rfl) (by decide)
                        refine lv_aload_n hx hb dX7_append_29 rfl (lv_at hl 2 rfl) ?_
                        refine t_getfd C h tf325 hu0 (by decide) wf_11 (v := .ref tq) k326 fl_X7_11 dX7_append_30 ?_
                        refine lv_aload_n hx hb dX7_append_33 rfl (lv_at hl 2 rfl) ?_
                        refine t_getfd C h tf325 hu0 (by decide) wf_11 (v := .int z324) k330 fl_X7_18 dX7_append_34 ?_
                        refine lv_iload_n hx hb dX7_append_37 rfl (lv_at hl 0 rfl) ?_
                        refine e_iast C h tf325 of325 htq (by decide) (by decide) wf_13 fw_13 k329 (iv_in i348 (by decide)) (iv_w i340 (by decide)) dX7_append_38 (fun R351 f349 erR351 H locs h tf349 of349 hq hn_ k350 => ?_)
                        have k352 := atp.tg k326 hq hu0 (by decide)
                        have k353 := FX.up k327 hn_ (by simp)
                        have k355 := atp.tg k330 hq hu0 (by decide)
                        refine lv_aload_n hx hb dX7_append_39 rfl (lv_at hl 2 rfl) ?_
                        refine lv_dup hx hb dX7_append_40 rfl ?_
                        refine t_getfd C h tf349 hu0 (by decide) wf_11 (v := .int z324) k355 fl_X7_18 dX7_append_41 ?_
                        refine lv_iconst (v := 1) hx hb dX7_append_44 (by decide) ?_
                        refine i_addk hx hb dX7_append_45 i348 (k := 1) rfl (lo := 3) (hi := 200) (by decide) (fun z356 ez356 mz356 iz356 => ?_)
                        refine t_put C h tf349 of349 hu0 (by decide) (by decide) (by decide) wf_11 fw_11 (k := 0) rfl flw_X7_18 (Or.inr ⟨_, _, _, rfl, rfl⟩) (v := .int z356) rfl rfl ⟨_, rfl, (iv_w iz356 (by decide))⟩ dX7_append_46 (fun f357 H locs h tf357 of357 hq ha_ hn_ hk_ => ?_)
                        have k358 := hk_ 1 _ (by decide) k352
                        have k359 := FX.up k353 hn_ (by simp)
                        have k361 := atp.tg k350 hq htq (by decide)
                        have k362 := ha_
                        refine lv_iinc (v := -8) (lv' := [(2, .int (-8)), (3, .int z335), (0, .ref u0), (1, .int u1)]) hx hb dX7_append_49 hl (k := 1) rfl (by decide) (by decide) rfl (fun ls hl => ?_)
                        refine lv_goto (tgt := 3) hx hb dX7_append_52 (by decide) ?_
                        refine lv_iload_n hx hb dX7_append_3 rfl (lv_at hl 0 rfl) ?_
                        refine lv_if_lt (tgt := 55) hx hb dX7_append_4 (by decide) (fun c363 => ?_) (fun c363 => ?_)
                        · exact u_vret C h hr hQ (⟨tf357, of357, ⟨z356, k362, (iv_w iz356 (by decide)), (by omega)⟩, ⟨R351, k361, (fun B hB k hk => by
                              have hk : (k : Int) < ln.toInt + nb u1 := hk
                              have hb24 : bt u1 24 = z5.toInt := mz5.symm
                              have hc24 : ¬ bt u1 24 = 0 := by omega
                              have hb16 : bt u1 16 = z261.toInt := mz261.symm
                              have hc16 : bt u1 16 = 0 := by omega
                              have hb8 : bt u1 8 = z271.toInt := mz271.symm
                              have hc8 : ¬ bt u1 8 = 0 := by omega
                              have hb0 : bt u1 0 = z335.toInt := mz335.symm
                              have hc0 : ¬ bt u1 0 = 0 := by omega
                              simp only [a4, a1, if_neg hc24, if_pos hc16, if_neg hc8, if_neg hc0]
                              rw [erR351]; by_cases q_ : k = z324.toInt.toNat
                              · rw [upd_at q_, if_pos (by omega), hb0]
                              · rw [upd_off q_, if_neg (by omega)]
                                rw [erR319]; by_cases q_ : k = z250.toInt.toNat
                                · rw [upd_at q_, if_pos (by omega), hb8]
                                · rw [upd_off q_, if_neg (by omega)]
                                  rw [erR245]; by_cases q_ : k = ln.toInt.toNat
                                  · rw [upd_at q_, if_pos (by omega), hb24]
                                  · rw [upd_off q_, if_neg (by omega)]
                                    exact hB k (by omega))⟩, k359⟩) (Nat.le_of_ble_eq_true rfl) (Nat.le_of_ble_eq_true rfl) dX7_append_55
                        · exact absurd c363 (by decide)
          · have c265 : z261.toInt ≠ 0 := fun z_ => c262 (Int32.toInt_inj.mp z_)
            have i266 : iv z261 1 255 := iv_Nl c265 iz261 (by decide)
            refine lv_aload_n hx hb dX7_append_19 rfl (lv_at hl 2 rfl) ?_
            refine t_getfd C h tf251 hu0 (by decide) wf_11 (v := .int z250) k256 fl_X7_18 dX7_append_20 ?_
            refine lv_sipush (v := 200) hx hb dX7_append_23 (by decide) ?_
            refine lv_icmp_ge (tgt := 49) hx hb dX7_append_26 (by decide) (fun c366 => ?_) (fun c366 => ?_)
            · have c367 : 200 ≤ z250.toInt := Int32.le_iff_toInt_le.mp c366
              have i368 : iv z250 200 200 := iv_Er c367 (iv_k (x := 200) (k := 200) rfl) iz250 (by decide)
              exfalso; omega
            · have c369 : z250.toInt < 200 := Int32.lt_iff_toInt_lt.mp (iv_nle c366)
              have i370 : iv z250 1 199 := iv_Ll c369 iz250 (iv_k (x := 200) (k := 200) rfl) (by decide)
              refine lv_aload_n hx hb dX7_append_29 rfl (lv_at hl 2 rfl) ?_
              refine t_getfd C h tf251 hu0 (by decide) wf_11 (v := .ref tq) k253 fl_X7_11 dX7_append_30 ?_
              refine lv_aload_n hx hb dX7_append_33 rfl (lv_at hl 2 rfl) ?_
              refine t_getfd C h tf251 hu0 (by decide) wf_11 (v := .int z250) k256 fl_X7_18 dX7_append_34 ?_
              refine lv_iload_n hx hb dX7_append_37 rfl (lv_at hl 0 rfl) ?_
              refine e_iast C h tf251 of251 htq (by decide) (by decide) wf_13 fw_13 k255 (iv_in i370 (by decide)) (iv_w i266 (by decide)) dX7_append_38 (fun R373 f371 erR373 H locs h tf371 of371 hq hn_ k372 => ?_)
              have k374 := atp.tg k253 hq hu0 (by decide)
              have k375 := FX.up k254 hn_ (by simp)
              have k377 := atp.tg k256 hq hu0 (by decide)
              refine lv_aload_n hx hb dX7_append_39 rfl (lv_at hl 2 rfl) ?_
              refine lv_dup hx hb dX7_append_40 rfl ?_
              refine t_getfd C h tf371 hu0 (by decide) wf_11 (v := .int z250) k377 fl_X7_18 dX7_append_41 ?_
              refine lv_iconst (v := 1) hx hb dX7_append_44 (by decide) ?_
              refine i_addk hx hb dX7_append_45 i370 (k := 1) rfl (lo := 2) (hi := 200) (by decide) (fun z378 ez378 mz378 iz378 => ?_)
              refine t_put C h tf371 of371 hu0 (by decide) (by decide) (by decide) wf_11 fw_11 (k := 0) rfl flw_X7_18 (Or.inr ⟨_, _, _, rfl, rfl⟩) (v := .int z378) rfl rfl ⟨_, rfl, (iv_w iz378 (by decide))⟩ dX7_append_46 (fun f379 H locs h tf379 of379 hq ha_ hn_ hk_ => ?_)
              have k380 := hk_ 1 _ (by decide) k374
              have k381 := FX.up k375 hn_ (by simp)
              have k383 := atp.tg k372 hq htq (by decide)
              have k384 := ha_
              refine lv_iinc (v := 8) (lv' := [(2, .int 8), (3, .int z261), (0, .ref u0), (1, .int u1)]) hx hb dX7_append_49 hl (k := 1) rfl (by decide) (by decide) rfl (fun ls hl => ?_)
              refine lv_goto (tgt := 3) hx hb dX7_append_52 (by decide) ?_
              refine lv_iload_n hx hb dX7_append_3 rfl (lv_at hl 0 rfl) ?_
              refine lv_if_lt (tgt := 55) hx hb dX7_append_4 (by decide) (fun c385 => ?_) (fun c385 => ?_)
              · exact absurd c385 (by decide)
              · refine lv_iload_n hx hb dX7_append_7 rfl (lv_at hl 3 rfl) ?_
                refine lv_iload_n hx hb dX7_append_8 rfl (lv_at hl 0 rfl) ?_
                refine lv_iushr hx hb dX7_append_9 rfl (i_top (iv_any _) (fun z388 ez388 iz388 => ?_))
                refine lv_sipush (v := 255) hx hb dX7_append_10 (by decide) ?_
                refine lv_iand hx hb dX7_append_13 (i_top (iv_and (k := 255) rfl (by decide)) (fun z389 ez389 iz389 => ?_))
                have mz389 : z389.toInt = bt u1 8 := by rw [ez389, ez388]; exact bt_u8 _
                refine lv_istore_n (lv' := [(3, .int z389), (2, .int 8), (0, .ref u0), (1, .int u1)]) hx hb dX7_append_14 rfl hl (by decide) rfl (fun ls hl => ?_)
                refine lv_iload_n hx hb dX7_append_15 rfl (lv_at hl 0 rfl) ?_
                refine lv_if_eq (tgt := 49) hx hb dX7_append_16 (by decide) (fun c390 => ?_) (fun c390 => ?_)
                · have c391 : z389.toInt = 0 := congrArg Int32.toInt c390
                  have i392 : iv z389 0 0 := iv_Q c391 iz389 (iv_k (x := 0) (k := 0) rfl) (by decide)
                  refine lv_iinc (v := 0) (lv' := [(2, .int 0), (3, .int z389), (0, .ref u0), (1, .int u1)]) hx hb dX7_append_49 hl (k := 1) rfl (by decide) (by decide) rfl (fun ls hl => ?_)
                  refine lv_goto (tgt := 3) hx hb dX7_append_52 (by decide) ?_
                  refine lv_iload_n hx hb dX7_append_3 rfl (lv_at hl 0 rfl) ?_
                  refine lv_if_lt (tgt := 55) hx hb dX7_append_4 (by decide) (fun c395 => ?_) (fun c395 => ?_)
                  · exact absurd c395 (by decide)
                  · refine lv_iload_n hx hb dX7_append_7 rfl (lv_at hl 3 rfl) ?_
                    refine lv_iload_n hx hb dX7_append_8 rfl (lv_at hl 0 rfl) ?_
                    refine lv_iushr hx hb dX7_append_9 rfl (i_top (iv_any _) (fun z398 ez398 iz398 => ?_))
                    refine lv_sipush (v := 255) hx hb dX7_append_10 (by decide) ?_
                    refine lv_iand hx hb dX7_append_13 (i_top (iv_and (k := 255) rfl (by decide)) (fun z399 ez399 iz399 => ?_))
                    have mz399 : z399.toInt = bt u1 0 := by rw [ez399, ez398]; exact bt_u0 _
                    refine lv_istore_n (lv' := [(3, .int z399), (2, .int 0), (0, .ref u0), (1, .int u1)]) hx hb dX7_append_14 rfl hl (by decide) rfl (fun ls hl => ?_)
                    refine lv_iload_n hx hb dX7_append_15 rfl (lv_at hl 0 rfl) ?_
                    refine lv_if_eq (tgt := 49) hx hb dX7_append_16 (by decide) (fun c400 => ?_) (fun c400 => ?_)
                    · have c401 : z399.toInt = 0 := congrArg Int32.toInt c400
                      have i402 : iv z399 0 0 := iv_Q c401 iz399 (iv_k (x := 0) (k := 0) rfl) (by decide)
                      refine lv_iinc (v := -8) (lv' := [(2, .int (-8)), (3, .int z399), (0, .ref u0), (1, .int u1)]) hx hb dX7_append_49 hl (k := 1) rfl (by decide) (by decide) rfl (fun ls hl => ?_)
                      refine lv_goto (tgt := 3) hx hb dX7_append_52 (by decide) ?_
                      refine lv_iload_n hx hb dX7_append_3 rfl (lv_at hl 0 rfl) ?_
                      refine lv_if_lt (tgt := 55) hx hb dX7_append_4 (by decide) (fun c405 => ?_) (fun c405 => ?_)
                      · exact u_vret C h hr hQ (⟨tf379, of379, ⟨z378, k384, (iv_w iz378 (by decide)), (by omega)⟩, ⟨R373, k383, (fun B hB k hk => by
                            have hk : (k : Int) < ln.toInt + nb u1 := hk
                            have hb24 : bt u1 24 = z5.toInt := mz5.symm
                            have hc24 : ¬ bt u1 24 = 0 := by omega
                            have hb16 : bt u1 16 = z261.toInt := mz261.symm
                            have hc16 : ¬ bt u1 16 = 0 := by omega
                            have hb8 : bt u1 8 = z389.toInt := mz389.symm
                            have hc8 : bt u1 8 = 0 := by omega
                            have hb0 : bt u1 0 = z399.toInt := mz399.symm
                            have hc0 : bt u1 0 = 0 := by omega
                            simp only [a4, a1, if_neg hc24, if_neg hc16, if_pos hc8, if_pos hc0]
                            rw [erR373]; by_cases q_ : k = z250.toInt.toNat
                            · rw [upd_at q_, if_pos (by omega), hb16]
                            · rw [upd_off q_, if_neg (by omega)]
                              rw [erR245]; by_cases q_ : k = ln.toInt.toNat
                              · rw [upd_at q_, if_pos (by omega), hb24]
                              · rw [upd_off q_, if_neg (by omega)]
                                exact hB k (by omega))⟩, k381⟩) (Nat.le_of_ble_eq_true rfl) (Nat.le_of_ble_eq_true rfl) dX7_append_55
                      · exact absurd c405 (by decide)
                    · have c403 : z399.toInt ≠ 0 := fun z_ => c400 (Int32.toInt_inj.mp z_)
                      have i404 : iv z399 1 255 := iv_Nl c403 iz399 (by decide)
                      refine lv_aload_n hx hb dX7_append_19 rfl (lv_at hl 2 rfl) ?_
                      refine t_getfd C h tf379 hu0 (by decide) wf_11 (v := .int z378) k384 fl_X7_18 dX7_append_20 ?_
                      refine lv_sipush (v := 200) hx hb dX7_append_23 (by decide) ?_
                      refine lv_icmp_ge (tgt := 49) hx hb dX7_append_26 (by decide) (fun c408 => ?_) (fun c408 => ?_)
                      · have c409 : 200 ≤ z378.toInt := Int32.le_iff_toInt_le.mp c408
                        have i410 : iv z378 200 200 := iv_Er c409 (iv_k (x := 200) (k := 200) rfl) iz378 (by decide)
                        exfalso; omega
                      · have c411 : z378.toInt < 200 := Int32.lt_iff_toInt_lt.mp (iv_nle c408)
                        have i412 : iv z378 2 199 := iv_Ll c411 iz378 (iv_k (x := 200) (k := 200) rfl) (by decide)
                        refine lv_aload_n hx hb dX7_append_29 rfl (lv_at hl 2 rfl) ?_
                        refine t_getfd C h tf379 hu0 (by decide) wf_11 (v := .ref tq) k380 fl_X7_11 dX7_append_30 ?_
                        refine lv_aload_n hx hb dX7_append_33 rfl (lv_at hl 2 rfl) ?_
                        refine t_getfd C h tf379 hu0 (by decide) wf_11 (v := .int z378) k384 fl_X7_18 dX7_append_34 ?_
                        refine lv_iload_n hx hb dX7_append_37 rfl (lv_at hl 0 rfl) ?_
                        refine e_iast C h tf379 of379 htq (by decide) (by decide) wf_13 fw_13 k383 (iv_in i412 (by decide)) (iv_w i404 (by decide)) dX7_append_38 (fun R415 f413 erR415 H locs h tf413 of413 hq hn_ k414 => ?_)
                        have k416 := atp.tg k380 hq hu0 (by decide)
                        have k417 := FX.up k381 hn_ (by simp)
                        have k419 := atp.tg k384 hq hu0 (by decide)
                        refine lv_aload_n hx hb dX7_append_39 rfl (lv_at hl 2 rfl) ?_
                        refine lv_dup hx hb dX7_append_40 rfl ?_
                        refine t_getfd C h tf413 hu0 (by decide) wf_11 (v := .int z378) k419 fl_X7_18 dX7_append_41 ?_
                        refine lv_iconst (v := 1) hx hb dX7_append_44 (by decide) ?_
                        refine i_addk hx hb dX7_append_45 i412 (k := 1) rfl (lo := 3) (hi := 200) (by decide) (fun z420 ez420 mz420 iz420 => ?_)
                        refine t_put C h tf413 of413 hu0 (by decide) (by decide) (by decide) wf_11 fw_11 (k := 0) rfl flw_X7_18 (Or.inr ⟨_, _, _, rfl, rfl⟩) (v := .int z420) rfl rfl ⟨_, rfl, (iv_w iz420 (by decide))⟩ dX7_append_46 (fun f421 H locs h tf421 of421 hq ha_ hn_ hk_ => ?_)
                        have k422 := hk_ 1 _ (by decide) k416
                        have k423 := FX.up k417 hn_ (by simp)
                        have k425 := atp.tg k414 hq htq (by decide)
                        have k426 := ha_
                        refine lv_iinc (v := -8) (lv' := [(2, .int (-8)), (3, .int z399), (0, .ref u0), (1, .int u1)]) hx hb dX7_append_49 hl (k := 1) rfl (by decide) (by decide) rfl (fun ls hl => ?_)
                        refine lv_goto (tgt := 3) hx hb dX7_append_52 (by decide) ?_
                        refine lv_iload_n hx hb dX7_append_3 rfl (lv_at hl 0 rfl) ?_
                        refine lv_if_lt (tgt := 55) hx hb dX7_append_4 (by decide) (fun c427 => ?_) (fun c427 => ?_)
                        · exact u_vret C h hr hQ (⟨tf421, of421, ⟨z420, k426, (iv_w iz420 (by decide)), (by omega)⟩, ⟨R415, k425, (fun B hB k hk => by
                              have hk : (k : Int) < ln.toInt + nb u1 := hk
                              have hb24 : bt u1 24 = z5.toInt := mz5.symm
                              have hc24 : ¬ bt u1 24 = 0 := by omega
                              have hb16 : bt u1 16 = z261.toInt := mz261.symm
                              have hc16 : ¬ bt u1 16 = 0 := by omega
                              have hb8 : bt u1 8 = z389.toInt := mz389.symm
                              have hc8 : bt u1 8 = 0 := by omega
                              have hb0 : bt u1 0 = z399.toInt := mz399.symm
                              have hc0 : ¬ bt u1 0 = 0 := by omega
                              simp only [a4, a1, if_neg hc24, if_neg hc16, if_pos hc8, if_neg hc0]
                              rw [erR415]; by_cases q_ : k = z378.toInt.toNat
                              · rw [upd_at q_, if_pos (by omega), hb0]
                              · rw [upd_off q_, if_neg (by omega)]
                                rw [erR373]; by_cases q_ : k = z250.toInt.toNat
                                · rw [upd_at q_, if_pos (by omega), hb16]
                                · rw [upd_off q_, if_neg (by omega)]
                                  rw [erR245]; by_cases q_ : k = ln.toInt.toNat
                                  · rw [upd_at q_, if_pos (by omega), hb24]
                                  · rw [upd_off q_, if_neg (by omega)]
                                    exact hB k (by omega))⟩, k423⟩) (Nat.le_of_ble_eq_true rfl) (Nat.le_of_ble_eq_true rfl) dX7_append_55
                        · exact absurd c427 (by decide)
                · have c393 : z389.toInt ≠ 0 := fun z_ => c390 (Int32.toInt_inj.mp z_)
                  have i394 : iv z389 1 255 := iv_Nl c393 iz389 (by decide)
                  refine lv_aload_n hx hb dX7_append_19 rfl (lv_at hl 2 rfl) ?_
                  refine t_getfd C h tf379 hu0 (by decide) wf_11 (v := .int z378) k384 fl_X7_18 dX7_append_20 ?_
                  refine lv_sipush (v := 200) hx hb dX7_append_23 (by decide) ?_
                  refine lv_icmp_ge (tgt := 49) hx hb dX7_append_26 (by decide) (fun c430 => ?_) (fun c430 => ?_)
                  · have c431 : 200 ≤ z378.toInt := Int32.le_iff_toInt_le.mp c430
                    have i432 : iv z378 200 200 := iv_Er c431 (iv_k (x := 200) (k := 200) rfl) iz378 (by decide)
                    exfalso; omega
                  · have c433 : z378.toInt < 200 := Int32.lt_iff_toInt_lt.mp (iv_nle c430)
                    have i434 : iv z378 2 199 := iv_Ll c433 iz378 (iv_k (x := 200) (k := 200) rfl) (by decide)
                    refine lv_aload_n hx hb dX7_append_29 rfl (lv_at hl 2 rfl) ?_
                    refine t_getfd C h tf379 hu0 (by decide) wf_11 (v := .ref tq) k380 fl_X7_11 dX7_append_30 ?_
                    refine lv_aload_n hx hb dX7_append_33 rfl (lv_at hl 2 rfl) ?_
                    refine t_getfd C h tf379 hu0 (by decide) wf_11 (v := .int z378) k384 fl_X7_18 dX7_append_34 ?_
                    refine lv_iload_n hx hb dX7_append_37 rfl (lv_at hl 0 rfl) ?_
                    refine e_iast C h tf379 of379 htq (by decide) (by decide) wf_13 fw_13 k383 (iv_in i434 (by decide)) (iv_w i394 (by decide)) dX7_append_38 (fun R437 f435 erR437 H locs h tf435 of435 hq hn_ k436 => ?_)
                    have k438 := atp.tg k380 hq hu0 (by decide)
                    have k439 := FX.up k381 hn_ (by simp)
                    have k441 := atp.tg k384 hq hu0 (by decide)
                    refine lv_aload_n hx hb dX7_append_39 rfl (lv_at hl 2 rfl) ?_
                    refine lv_dup hx hb dX7_append_40 rfl ?_
                    refine t_getfd C h tf435 hu0 (by decide) wf_11 (v := .int z378) k441 fl_X7_18 dX7_append_41 ?_
                    refine lv_iconst (v := 1) hx hb dX7_append_44 (by decide) ?_
                    refine i_addk hx hb dX7_append_45 i434 (k := 1) rfl (lo := 3) (hi := 200) (by decide) (fun z442 ez442 mz442 iz442 => ?_)
                    refine t_put C h tf435 of435 hu0 (by decide) (by decide) (by decide) wf_11 fw_11 (k := 0) rfl flw_X7_18 (Or.inr ⟨_, _, _, rfl, rfl⟩) (v := .int z442) rfl rfl ⟨_, rfl, (iv_w iz442 (by decide))⟩ dX7_append_46 (fun f443 H locs h tf443 of443 hq ha_ hn_ hk_ => ?_)
                    have k444 := hk_ 1 _ (by decide) k438
                    have k445 := FX.up k439 hn_ (by simp)
                    have k447 := atp.tg k436 hq htq (by decide)
                    have k448 := ha_
                    refine lv_iinc (v := 0) (lv' := [(2, .int 0), (3, .int z389), (0, .ref u0), (1, .int u1)]) hx hb dX7_append_49 hl (k := 1) rfl (by decide) (by decide) rfl (fun ls hl => ?_)
                    refine lv_goto (tgt := 3) hx hb dX7_append_52 (by decide) ?_
                    refine lv_iload_n hx hb dX7_append_3 rfl (lv_at hl 0 rfl) ?_
                    refine lv_if_lt (tgt := 55) hx hb dX7_append_4 (by decide) (fun c449 => ?_) (fun c449 => ?_)
                    · exact absurd c449 (by decide)
                    · refine lv_iload_n hx hb dX7_append_7 rfl (lv_at hl 3 rfl) ?_
                      refine lv_iload_n hx hb dX7_append_8 rfl (lv_at hl 0 rfl) ?_
                      refine lv_iushr hx hb dX7_append_9 rfl (i_top (iv_any _) (fun z452 ez452 iz452 => ?_))
                      refine lv_sipush (v := 255) hx hb dX7_append_10 (by decide) ?_
                      refine lv_iand hx hb dX7_append_13 (i_top (iv_and (k := 255) rfl (by decide)) (fun z453 ez453 iz453 => ?_))
                      have mz453 : z453.toInt = bt u1 0 := by rw [ez453, ez452]; exact bt_u0 _
                      refine lv_istore_n (lv' := [(3, .int z453), (2, .int 0), (0, .ref u0), (1, .int u1)]) hx hb dX7_append_14 rfl hl (by decide) rfl (fun ls hl => ?_)
                      refine lv_iload_n hx hb dX7_append_15 rfl (lv_at hl 0 rfl) ?_
                      refine lv_if_eq (tgt := 49) hx hb dX7_append_16 (by decide) (fun c454 => ?_) (fun c454 => ?_)
                      · have c455 : z453.toInt = 0 := congrArg Int32.toInt c454
                        have i456 : iv z453 0 0 := iv_Q c455 iz453 (iv_k (x := 0) (k := 0) rfl) (by decide)
                        refine lv_iinc (v := -8) (lv' := [(2, .int (-8)), (3, .int z453), (0, .ref u0), (1, .int u1)]) hx hb dX7_append_49 hl (k := 1) rfl (by decide) (by decide) rfl (fun ls hl => ?_)
                        refine lv_goto (tgt := 3) hx hb dX7_append_52 (by decide) ?_
                        refine lv_iload_n hx hb dX7_append_3 rfl (lv_at hl 0 rfl) ?_
                        refine lv_if_lt (tgt := 55) hx hb dX7_append_4 (by decide) (fun c459 => ?_) (fun c459 => ?_)
                        · exact u_vret C h hr hQ (⟨tf443, of443, ⟨z442, k448, (iv_w iz442 (by decide)), (by omega)⟩, ⟨R437, k447, (fun B hB k hk => by
                              have hk : (k : Int) < ln.toInt + nb u1 := hk
                              have hb24 : bt u1 24 = z5.toInt := mz5.symm
                              have hc24 : ¬ bt u1 24 = 0 := by omega
                              have hb16 : bt u1 16 = z261.toInt := mz261.symm
                              have hc16 : ¬ bt u1 16 = 0 := by omega
                              have hb8 : bt u1 8 = z389.toInt := mz389.symm
                              have hc8 : ¬ bt u1 8 = 0 := by omega
                              have hb0 : bt u1 0 = z453.toInt := mz453.symm
                              have hc0 : bt u1 0 = 0 := by omega
                              simp only [a4, a1, if_neg hc24, if_neg hc16, if_neg hc8, if_pos hc0]
                              rw [erR437]; by_cases q_ : k = z378.toInt.toNat
                              · rw [upd_at q_, if_pos (by omega), hb8]
                              · rw [upd_off q_, if_neg (by omega)]
                                rw [erR373]; by_cases q_ : k = z250.toInt.toNat
                                · rw [upd_at q_, if_pos (by omega), hb16]
                                · rw [upd_off q_, if_neg (by omega)]
                                  rw [erR245]; by_cases q_ : k = ln.toInt.toNat
                                  · rw [upd_at q_, if_pos (by omega), hb24]
                                  · rw [upd_off q_, if_neg (by omega)]
                                    exact hB k (by omega))⟩, k445⟩) (Nat.le_of_ble_eq_true rfl) (Nat.le_of_ble_eq_true rfl) dX7_append_55
                        · exact absurd c459 (by decide)
                      · have c457 : z453.toInt ≠ 0 := fun z_ => c454 (Int32.toInt_inj.mp z_)
                        have i458 : iv z453 1 255 := iv_Nl c457 iz453 (by decide)
                        refine lv_aload_n hx hb dX7_append_19 rfl (lv_at hl 2 rfl) ?_
                        refine t_getfd C h tf443 hu0 (by decide) wf_11 (v := .int z442) k448 fl_X7_18 dX7_append_20 ?_
                        refine lv_sipush (v := 200) hx hb dX7_append_23 (by decide) ?_
                        refine lv_icmp_ge (tgt := 49) hx hb dX7_append_26 (by decide) (fun c462 => ?_) (fun c462 => ?_)
                        · have c463 : 200 ≤ z442.toInt := Int32.le_iff_toInt_le.mp c462
                          have i464 : iv z442 200 200 := iv_Er c463 (iv_k (x := 200) (k := 200) rfl) iz442 (by decide)
                          exfalso; omega
                        · have c465 : z442.toInt < 200 := Int32.lt_iff_toInt_lt.mp (iv_nle c462)
                          have i466 : iv z442 3 199 := iv_Ll c465 iz442 (iv_k (x := 200) (k := 200) rfl) (by decide)
                          refine lv_aload_n hx hb dX7_append_29 rfl (lv_at hl 2 rfl) ?_
                          refine t_getfd C h tf443 hu0 (by decide) wf_11 (v := .ref tq) k444 fl_X7_11 dX7_append_30 ?_
                          refine lv_aload_n hx hb dX7_append_33 rfl (lv_at hl 2 rfl) ?_
                          refine t_getfd C h tf443 hu0 (by decide) wf_11 (v := .int z442) k448 fl_X7_18 dX7_append_34 ?_
                          refine lv_iload_n hx hb dX7_append_37 rfl (lv_at hl 0 rfl) ?_
                          refine e_iast C h tf443 of443 htq (by decide) (by decide) wf_13 fw_13 k447 (iv_in i466 (by decide)) (iv_w i458 (by decide)) dX7_append_38 (fun R469 f467 erR469 H locs h tf467 of467 hq hn_ k468 => ?_)
                          have k470 := atp.tg k444 hq hu0 (by decide)
                          have k471 := FX.up k445 hn_ (by simp)
                          have k473 := atp.tg k448 hq hu0 (by decide)
                          refine lv_aload_n hx hb dX7_append_39 rfl (lv_at hl 2 rfl) ?_
                          refine lv_dup hx hb dX7_append_40 rfl ?_
                          refine t_getfd C h tf467 hu0 (by decide) wf_11 (v := .int z442) k473 fl_X7_18 dX7_append_41 ?_
                          refine lv_iconst (v := 1) hx hb dX7_append_44 (by decide) ?_
                          refine i_addk hx hb dX7_append_45 i466 (k := 1) rfl (lo := 4) (hi := 200) (by decide) (fun z474 ez474 mz474 iz474 => ?_)
                          refine t_put C h tf467 of467 hu0 (by decide) (by decide) (by decide) wf_11 fw_11 (k := 0) rfl flw_X7_18 (Or.inr ⟨_, _, _, rfl, rfl⟩) (v := .int z474) rfl rfl ⟨_, rfl, (iv_w iz474 (by decide))⟩ dX7_append_46 (fun f475 H locs h tf475 of475 hq ha_ hn_ hk_ => ?_)
                          have k476 := hk_ 1 _ (by decide) k470
                          have k477 := FX.up k471 hn_ (by simp)
                          have k479 := atp.tg k468 hq htq (by decide)
                          have k480 := ha_
                          refine lv_iinc (v := -8) (lv' := [(2, .int (-8)), (3, .int z453), (0, .ref u0), (1, .int u1)]) hx hb dX7_append_49 hl (k := 1) rfl (by decide) (by decide) rfl (fun ls hl => ?_)
                          refine lv_goto (tgt := 3) hx hb dX7_append_52 (by decide) ?_
                          refine lv_iload_n hx hb dX7_append_3 rfl (lv_at hl 0 rfl) ?_
                          refine lv_if_lt (tgt := 55) hx hb dX7_append_4 (by decide) (fun c481 => ?_) (fun c481 => ?_)
                          · exact u_vret C h hr hQ (⟨tf475, of475, ⟨z474, k480, (iv_w iz474 (by decide)), (by omega)⟩, ⟨R469, k479, (fun B hB k hk => by
                                have hk : (k : Int) < ln.toInt + nb u1 := hk
                                have hb24 : bt u1 24 = z5.toInt := mz5.symm
                                have hc24 : ¬ bt u1 24 = 0 := by omega
                                have hb16 : bt u1 16 = z261.toInt := mz261.symm
                                have hc16 : ¬ bt u1 16 = 0 := by omega
                                have hb8 : bt u1 8 = z389.toInt := mz389.symm
                                have hc8 : ¬ bt u1 8 = 0 := by omega
                                have hb0 : bt u1 0 = z453.toInt := mz453.symm
                                have hc0 : ¬ bt u1 0 = 0 := by omega
                                simp only [a4, a1, if_neg hc24, if_neg hc16, if_neg hc8, if_neg hc0]
                                rw [erR469]; by_cases q_ : k = z442.toInt.toNat
                                · rw [upd_at q_, if_pos (by omega), hb0]
                                · rw [upd_off q_, if_neg (by omega)]
                                  rw [erR437]; by_cases q_ : k = z378.toInt.toNat
                                  · rw [upd_at q_, if_pos (by omega), hb8]
                                  · rw [upd_off q_, if_neg (by omega)]
                                    rw [erR373]; by_cases q_ : k = z250.toInt.toNat
                                    · rw [upd_at q_, if_pos (by omega), hb16]
                                    · rw [upd_off q_, if_neg (by omega)]
                                      rw [erR245]; by_cases q_ : k = ln.toInt.toNat
                                      · rw [upd_at q_, if_pos (by omega), hb24]
                                      · rw [upd_off q_, if_neg (by omega)]
                                        exact hB k (by omega))⟩, k477⟩) (Nat.le_of_ble_eq_true rfl) (Nat.le_of_ble_eq_true rfl) dX7_append_55
                          · exact absurd c481 (by decide)
abbrev rm_s_X11_feedX : Room := { frames := 1, cells := 0, slots := 0, locals := 23 }
set_option maxRecDepth 100000 in
set_option maxHeartbeats 4000000 in
theorem s_X11_feedX (l : Launch) (D : va_G) (G : Nat → Nat) (b0 : Nat) (τ : Nat → Nat) (f : hM) (t : TI G 9 τ f) (u0 : Nat) (hu0 : τ u0 = 60) (u1 : Int32) (hu1 : iv u1 (-2147483648) 2147483647) (u2 : Int32) (hu2 : iv u2 (-2147483648) 2147483647) (u3 : Int32) (hu3 : iv u3 (-2147483648) 2147483647) (u4 : Int32) (hu4 : iv u4 (-2147483648) 2147483647) (u5 : Int32) (hu5 : iv u5 (-2147483648) 2147483647) (ln : Int32) (hln : iv ln 0 200) (k_u0_2 : atp f u0 (fd 2 (.int ln))) (tq : Nat) (htq : τ tq = 61) (k_u0_1 : atp f u0 (fd 1 (.ref tq))) (rt : Nat → Int32) (hRtq : atp f tq (eqc (.inl (G 0, 200, .inl rt)))) : mI l yX11_feed cX11_feed 6 (.int) rm_s_X11_feedX D G b0 f [.ref u0, .int u1, .int u2, .int u3, .int u4, .int u5] (fun r f1 => iv r (-1) 200 ∧ TI G 9 τ f1 ∧ Fr [60, 61, 60001, 60003] τ f f1 ∧ (((ln.toInt + (nb u1 + nb u2 + nb u3 + nb u4 + nb u5) ≤ 200) → r.toInt = ln.toInt + (nb u1 + nb u2 + nb u3 + nb u4 + nb u5)) ∧ (¬ (ln.toInt + (nb u1 + nb u2 + nb u3 + nb u4 + nb u5) ≤ 200) → r.toInt = -1)) ∧ (∃ ln1 : Int32, atp f1 u0 (fd 2 (.int ln1)) ∧ iv ln1 0 200 ∧ ((ln.toInt + (nb u1 + nb u2 + nb u3 + nb u4 + nb u5) ≤ 200) → ln1.toInt = ln.toInt + (nb u1 + nb u2 + nb u3 + nb u4 + nb u5)) ∧ (¬ (ln.toInt + (nb u1 + nb u2 + nb u3 + nb u4 + nb u5) ≤ 200) → ln1.toInt = ln.toInt)) ∧ (∃ rt1 : Nat → Int32, atp f1 tq (eqc (.inl (G 0, 200, .inl rt1))) ∧ (∀ B : Nat → Int, (∀ k : Nat, (k : Int) < ln.toInt → (rt k).toInt = sg (B k)) → ∀ k : Nat, ((ln.toInt + (nb u1 + nb u2 + nb u3 + nb u4 + nb u5) ≤ 200) → (k : Int) < ln.toInt + (nb u1 + nb u2 + nb u3 + nb u4 + nb u5) → (rt1 k).toInt = sg ((a4 (a4 (a4 (a4 (a4 (ln.toInt, B) u1) u2) u3) u4) u5).2 k)) ∧ (¬ (ln.toInt + (nb u1 + nb u2 + nb u3 + nb u4 + nb u5) ≤ 200) → rt1 k = rt k)))) := by
  refine met2 (own := RX11) (by decide) rfl (Nat.le_of_ble_eq_true rfl) ?_
  intro p e s m args below meth c ls Q hQ C hr hini hl h
  have hl : lv_has ls 6 [(0, .ref u0), (1, .int u1), (2, .int u2), (3, .int u3), (4, .int u4), (5, .int u5)] := hl
  obtain ⟨hx, hb, hml, hown, hts, hE0, hlk⟩ := id C
  have o := Fr.rf [60, 61, 60001, 60003] τ f
  have hn1 := nb_iv u1
  have hn2 := nb_iv u2
  have hn3 := nb_iv u3
  have hn4 := nb_iv u4
  have hn5 := nb_iv u5
  refine lv_aload_n hx hb dX11_feed_0 rfl (lv_at hl 0 rfl) ?_
  refine lv_iconst (v := 0) hx hb dX11_feed_1 (by decide) ?_
  refine t_put C h t o hu0 (by decide) (by decide) (by decide) wf_60 fw_60 (k := 0) rfl flw_X11_75 (Or.inr ⟨_, _, _, rfl, rfl⟩) (v := .int 0) rfl rfl ⟨_, rfl, ⟨by decide, by decide⟩⟩ dX11_feed_2 (fun f1 H locs h tf1 of1 hq ha_ hn_ hk_ => ?_)
  have k2 := hk_ 2 _ (by decide) k_u0_2
  have k3 := hk_ 1 _ (by decide) k_u0_1
  have k4 := atp.tg hRtq hq htq (by decide)
  have k5 := ha_
  refine lv_aload_n hx hb dX11_feed_5 rfl (lv_at hl 0 rfl) ?_
  refine t_getfd C h tf1 hu0 (by decide) wf_60 (v := .int ln) k2 fl_X11_79 dX11_feed_6 ?_
  refine lv_iload_n hx hb dX11_feed_9 rfl (lv_at hl 1 rfl) ?_
  refine k_i (r_S C h hl (As := [.int u1]) (rest := [.int ln]) (s_X11_bytesOfX l D G b0 τ f1 tf1 u1 hu1) mk_X11_bytesOf w_1534 w_1535 w_1536 ⟨Nat.le_of_ble_eq_true rfl, Nat.le_of_ble_eq_true rfl⟩ rfl (Nat.le_of_ble_eq_true rfl) ⟨Nat.le_of_ble_eq_true rfl, Nat.le_of_ble_eq_true rfl⟩ rfl dX11_feed_10) h (fun r6 f7 H locs p8 h => ?_)
  obtain ⟨ir6, tf7, ogf7, x0r6⟩ := p8
  have egf7 := Fr.nil2 ogf7
  subst egf7
  refine i_add hx hb dX11_feed_13 hln ir6 (lo := 0) (hi := 204) (by decide) (fun z9 ez9 mz9 iz9 => ?_)
  refine lv_iload_n hx hb dX11_feed_14 rfl (lv_at hl 2 rfl) ?_
  refine k_i (r_S C h hl (As := [.int u2]) (rest := [.int z9]) (s_X11_bytesOfX l D G b0 τ f1 tf1 u2 hu2) mk_X11_bytesOf w_1534 w_1535 w_1536 ⟨Nat.le_of_ble_eq_true rfl, Nat.le_of_ble_eq_true rfl⟩ rfl (Nat.le_of_ble_eq_true rfl) ⟨Nat.le_of_ble_eq_true rfl, Nat.le_of_ble_eq_true rfl⟩ rfl dX11_feed_15) h (fun r10 f11 H locs p12 h => ?_)
  obtain ⟨ir10, tf11, ogf11, x0r10⟩ := p12
  have egf11 := Fr.nil2 ogf11
  subst egf11
  refine i_add hx hb dX11_feed_18 iz9 ir10 (lo := 0) (hi := 208) (by decide) (fun z13 ez13 mz13 iz13 => ?_)
  refine lv_iload_n hx hb dX11_feed_19 rfl (lv_at hl 3 rfl) ?_
  refine k_i (r_S C h hl (As := [.int u3]) (rest := [.int z13]) (s_X11_bytesOfX l D G b0 τ f1 tf1 u3 hu3) mk_X11_bytesOf w_1534 w_1535 w_1536 ⟨Nat.le_of_ble_eq_true rfl, Nat.le_of_ble_eq_true rfl⟩ rfl (Nat.le_of_ble_eq_true rfl) ⟨Nat.le_of_ble_eq_true rfl, Nat.le_of_ble_eq_true rfl⟩ rfl dX11_feed_20) h (fun r14 f15 H locs p16 h => ?_)
  obtain ⟨ir14, tf15, ogf15, x0r14⟩ := p16
  have egf15 := Fr.nil2 ogf15
  subst egf15
  refine i_add hx hb dX11_feed_23 iz13 ir14 (lo := 0) (hi := 212) (by decide) (fun z17 ez17 mz17 iz17 => ?_)
  refine lv_iload hx hb dX11_feed_24 (lv_at hl 4 rfl) ?_
  refine k_i (r_S C h hl (As := [.int u4]) (rest := [.int z17]) (s_X11_bytesOfX l D G b0 τ f1 tf1 u4 hu4) mk_X11_bytesOf w_1534 w_1535 w_1536 ⟨Nat.le_of_ble_eq_true rfl, Nat.le_of_ble_eq_true rfl⟩ rfl (Nat.le_of_ble_eq_true rfl) ⟨Nat.le_of_ble_eq_true rfl, Nat.le_of_ble_eq_true rfl⟩ rfl dX11_feed_26) h (fun r18 f19 H locs p20 h => ?_)
  obtain ⟨ir18, tf19, ogf19, x0r18⟩ := p20
  have egf19 := Fr.nil2 ogf19
  subst egf19
  refine i_add hx hb dX11_feed_29 iz17 ir18 (lo := 0) (hi := 216) (by decide) (fun z21 ez21 mz21 iz21 => ?_)
  refine lv_iload hx hb dX11_feed_30 (lv_at hl 5 rfl) ?_
  refine k_i (r_S C h hl (As := [.int u5]) (rest := [.int z21]) (s_X11_bytesOfX l D G b0 τ f1 tf1 u5 hu5) mk_X11_bytesOf w_1534 w_1535 w_1536 ⟨Nat.le_of_ble_eq_true rfl, Nat.le_of_ble_eq_true rfl⟩ rfl (Nat.le_of_ble_eq_true rfl) ⟨Nat.le_of_ble_eq_true rfl, Nat.le_of_ble_eq_true rfl⟩ rfl dX11_feed_32) h (fun r22 f23 H locs p24 h => ?_)
  obtain ⟨ir22, tf23, ogf23, x0r22⟩ := p24
  have egf23 := Fr.nil2 ogf23
  subst egf23
  refine i_add hx hb dX11_feed_35 iz21 ir22 (lo := 0) (hi := 220) (by decide) (fun z25 ez25 mz25 iz25 => ?_)
  refine lv_sipush (v := 200) hx hb dX11_feed_36 (by decide) ?_
  refine lv_icmp_le (tgt := 44) hx hb dX11_feed_39 (by decide) (fun c26 => ?_) (fun c26 => ?_)
  · have c27 : z25.toInt ≤ 200 := Int32.le_iff_toInt_le.mp c26
    have i28 : iv z25 0 200 := iv_El c27 iz25 (iv_k (x := 200) (k := 200) rfl) (by decide)
    refine lv_aload_n hx hb dX11_feed_44 rfl (lv_at hl 0 rfl) ?_
    refine lv_iload_n hx hb dX11_feed_45 rfl (lv_at hl 1 rfl) ?_
    obtain ⟨_, r31⟩ := t_rec tf1 hu0 (by decide) wf_60
    refine k_v (r_V C h hl (As := [.int u1]) (rest := []) (s_X11_bringsX l D G b0 τ f1 tf1 u0 hu0 u1 hu1 ln hln k2 tq htq k3 rt k4 (by omega)) r31 (Cn := RX11) (T := TX11) (N := 32) rfl rfl mk_X11_brings w_1537 w_1539 w_37 w_1540 ⟨Nat.le_of_ble_eq_true rfl, Nat.le_of_ble_eq_true rfl⟩ rfl (Nat.le_of_ble_eq_true rfl) ⟨Nat.le_of_ble_eq_true rfl, Nat.le_of_ble_eq_true rfl⟩ rfl dX11_feed_46) h (fun f33 H locs p34 h => ?_)
    obtain ⟨tf33, ogf33, ⟨ln1_f33, kpu0_2f33, ipu0_2f33, rpu0_2f33⟩, ⟨rt1_f33, kRtqf33, pRtqf33⟩⟩ := p34
    have of33 : Fr [60, 61, 60001, 60003] τ f f33 := Fr.tr of1 ogf33 (by decide) (by decide)
    have k35 := atp.fk k3 ogf33 hu0 (by decide) (by decide)
    refine lv_aload_n hx hb dX11_feed_49 rfl (lv_at hl 0 rfl) ?_
    refine lv_iload_n hx hb dX11_feed_50 rfl (lv_at hl 2 rfl) ?_
    obtain ⟨_, r36⟩ := t_rec tf33 hu0 (by decide) wf_60
    refine k_v (r_V C h hl (As := [.int u2]) (rest := []) (s_X11_bringsX l D G b0 τ f33 tf33 u0 hu0 u2 hu2 ln1_f33 ipu0_2f33 kpu0_2f33 tq htq k35 rt1_f33 kRtqf33 (by omega)) r36 (Cn := RX11) (T := TX11) (N := 32) rfl rfl mk_X11_brings w_1537 w_1539 w_37 w_1540 ⟨Nat.le_of_ble_eq_true rfl, Nat.le_of_ble_eq_true rfl⟩ rfl (Nat.le_of_ble_eq_true rfl) ⟨Nat.le_of_ble_eq_true rfl, Nat.le_of_ble_eq_true rfl⟩ rfl dX11_feed_51) h (fun f38 H locs p39 h => ?_)
    obtain ⟨tf38, ogf38, ⟨ln1_f38, kpu0_2f38, ipu0_2f38, rpu0_2f38⟩, ⟨rt1_f38, kRtqf38, pRtqf38⟩⟩ := p39
    have of38 : Fr [60, 61, 60001, 60003] τ f f38 := Fr.tr of33 ogf38 (by decide) (by decide)
    have k40 := atp.fk k35 ogf38 hu0 (by decide) (by decide)
    refine lv_aload_n hx hb dX11_feed_54 rfl (lv_at hl 0 rfl) ?_
    refine lv_iload_n hx hb dX11_feed_55 rfl (lv_at hl 3 rfl) ?_
    obtain ⟨_, r41⟩ := t_rec tf38 hu0 (by decide) wf_60
    refine k_v (r_V C h hl (As := [.int u3]) (rest := []) (s_X11_bringsX l D G b0 τ f38 tf38 u0 hu0 u3 hu3 ln1_f38 ipu0_2f38 kpu0_2f38 tq htq k40 rt1_f38 kRtqf38 (by omega)) r41 (Cn := RX11) (T := TX11) (N := 32) rfl rfl mk_X11_brings w_1537 w_1539 w_37 w_1540 ⟨Nat.le_of_ble_eq_true rfl, Nat.le_of_ble_eq_true rfl⟩ rfl (Nat.le_of_ble_eq_true rfl) ⟨Nat.le_of_ble_eq_true rfl, Nat.le_of_ble_eq_true rfl⟩ rfl dX11_feed_56) h (fun f43 H locs p44 h => ?_)
    obtain ⟨tf43, ogf43, ⟨ln1_f43, kpu0_2f43, ipu0_2f43, rpu0_2f43⟩, ⟨rt1_f43, kRtqf43, pRtqf43⟩⟩ := p44
    have of43 : Fr [60, 61, 60001, 60003] τ f f43 := Fr.tr of38 ogf43 (by decide) (by decide)
    have k45 := atp.fk k40 ogf43 hu0 (by decide) (by decide)
    refine lv_aload_n hx hb dX11_feed_59 rfl (lv_at hl 0 rfl) ?_
    refine lv_iload hx hb dX11_feed_60 (lv_at hl 4 rfl) ?_
    obtain ⟨_, r46⟩ := t_rec tf43 hu0 (by decide) wf_60
    refine k_v (r_V C h hl (As := [.int u4]) (rest := []) (s_X11_bringsX l D G b0 τ f43 tf43 u0 hu0 u4 hu4 ln1_f43 ipu0_2f43 kpu0_2f43 tq htq k45 rt1_f43 kRtqf43 (by omega)) r46 (Cn := RX11) (T := TX11) (N := 32) rfl rfl mk_X11_brings w_1537 w_1539 w_37 w_1540 ⟨Nat.le_of_ble_eq_true rfl, Nat.le_of_ble_eq_true rfl⟩ rfl (Nat.le_of_ble_eq_true rfl) ⟨Nat.le_of_ble_eq_true rfl, Nat.le_of_ble_eq_true rfl⟩ rfl dX11_feed_62) h (fun f48 H locs p49 h => ?_)
    obtain ⟨tf48, ogf48, ⟨ln1_f48, kpu0_2f48, ipu0_2f48, rpu0_2f48⟩, ⟨rt1_f48, kRtqf48, pRtqf48⟩⟩ := p49
    have of48 : Fr [60, 61, 60001, 60003] τ f f48 := Fr.tr of43 ogf48 (by decide) (by decide)
    have k50 := atp.fk k45 ogf48 hu0 (by decide) (by decide)
    refine lv_aload_n hx hb dX11_feed_65 rfl (lv_at hl 0 rfl) ?_
    refine lv_iload hx hb dX11_feed_66 (lv_at hl 5 rfl) ?_
    obtain ⟨_, r51⟩ := t_rec tf48 hu0 (by decide) wf_60
    refine k_v (r_V C h hl (As := [.int u5]) (rest := []) (s_X11_bringsX l D G b0 τ f48 tf48 u0 hu0 u5 hu5 ln1_f48 ipu0_2f48 kpu0_2f48 tq htq k50 rt1_f48 kRtqf48 (by omega)) r51 (Cn := RX11) (T := TX11) (N := 32) rfl rfl mk_X11_brings w_1537 w_1539 w_37 w_1540 ⟨Nat.le_of_ble_eq_true rfl, Nat.le_of_ble_eq_true rfl⟩ rfl (Nat.le_of_ble_eq_true rfl) ⟨Nat.le_of_ble_eq_true rfl, Nat.le_of_ble_eq_true rfl⟩ rfl dX11_feed_68) h (fun f53 H locs p54 h => ?_)
    obtain ⟨tf53, ogf53, ⟨ln1_f53, kpu0_2f53, ipu0_2f53, rpu0_2f53⟩, ⟨rt1_f53, kRtqf53, pRtqf53⟩⟩ := p54
    have of53 : Fr [60, 61, 60001, 60003] τ f f53 := Fr.tr of48 ogf53 (by decide) (by decide)
    have k55 := atp.fk k50 ogf53 hu0 (by decide) (by decide)
    refine lv_aload_n hx hb dX11_feed_71 rfl (lv_at hl 0 rfl) ?_
    refine t_getfd C h tf53 hu0 (by decide) wf_60 (v := .int ln1_f53) kpu0_2f53 fl_X11_79 dX11_feed_72 ?_
    exact u_iret C h hr hQ (⟨(iv_w ipu0_2f53 (by decide)), tf53, of53, (by omega), ⟨ln1_f53, kpu0_2f53, ipu0_2f53, (by omega)⟩, ⟨rt1_f53, kRtqf53, (fun B hB k => by
        refine ⟨fun z_ hk => ?_, fun z_ => absurd z_ (by omega)⟩
        have h1 := pRtqf33 B hB
        have h2 := pRtqf38 (a4 (ln.toInt, B) u1).2 (fun k_ hk_ => h1 k_ (by omega))
        rw [a4_p (ln.toInt, B) u1 (by show _ = ln.toInt + _; omega)] at h2
        have h3 := pRtqf43 (a4 (a4 (ln.toInt, B) u1) u2).2 (fun k_ hk_ => h2 k_ (by omega))
        rw [a4_p (a4 (ln.toInt, B) u1) u2 (by rw [a4_1]; show _ = ln.toInt + nb u1 + nb u2; omega)] at h3
        have h4 := pRtqf48 (a4 (a4 (a4 (ln.toInt, B) u1) u2) u3).2 (fun k_ hk_ => h3 k_ (by omega))
        rw [a4_p (a4 (a4 (ln.toInt, B) u1) u2) u3 (by rw [a4_1, a4_1]; show _ = ln.toInt + nb u1 + nb u2 + nb u3; omega)] at h4
        have h5 := pRtqf53 (a4 (a4 (a4 (a4 (ln.toInt, B) u1) u2) u3) u4).2 (fun k_ hk_ => h4 k_ (by omega))
        rw [a4_p (a4 (a4 (a4 (ln.toInt, B) u1) u2) u3) u4 (by rw [a4_1, a4_1, a4_1]; show _ = ln.toInt + nb u1 + nb u2 + nb u3 + nb u4; omega)] at h5
        exact h5 k (by omega))⟩⟩) (Nat.le_of_ble_eq_true rfl) (Nat.le_of_ble_eq_true rfl) dX11_feed_75
  · have c29 : 200 < z25.toInt := Int32.lt_iff_toInt_lt.mp (iv_nle c26)
    have i30 : iv z25 201 220 := iv_Lr c29 (iv_k (x := 200) (k := 200) rfl) iz25 (by decide)
    refine lv_iconst (v := -1) hx hb dX11_feed_42 (by decide) ?_
    exact u_iret C h hr hQ (⟨⟨by decide, by decide⟩, tf1, of1, (by have n_ : (-1 : Int32).toInt = -1 := rfl; omega), ⟨ln, k2, hln, (by omega)⟩, ⟨rt, k4, (fun B hB k => ⟨fun z_ => absurd z_ (by omega), fun _ => rfl⟩)⟩⟩) (Nat.le_of_ble_eq_true rfl) (Nat.le_of_ble_eq_true rfl) dX11_feed_43
abbrev rm_s_X10_feedX : Room := { frames := 1, cells := 0, slots := 0, locals := 23 }
set_option maxRecDepth 100000 in
set_option maxHeartbeats 4000000 in
theorem s_X10_feedX (l : Launch) (D : va_G) (G : Nat → Nat) (b0 : Nat) (τ : Nat → Nat) (f : hM) (t : TI G 9 τ f) (u0 : Nat) (hu0 : τ u0 = 10) (u1 : Int32) (hu1 : iv u1 (-2147483648) 2147483647) (u2 : Int32) (hu2 : iv u2 (-2147483648) 2147483647) (u3 : Int32) (hu3 : iv u3 (-2147483648) 2147483647) (u4 : Int32) (hu4 : iv u4 (-2147483648) 2147483647) (u5 : Int32) (hu5 : iv u5 (-2147483648) 2147483647) (ta : Nat) (hta : τ ta = 11) (k_u0_0 : atp f u0 (fd 0 (.ref ta))) (ln : Int32) (hln : iv ln 0 200) (k_ta_0 : atp f ta (fd 0 (.int ln))) (tq : Nat) (htq : τ tq = 13) (k_ta_1 : atp f ta (fd 1 (.ref tq))) (rt : Nat → Int32) (hRtq : atp f tq (eqc (.inl (G 1, 200, .inl rt)))) : mI l yX10_feed cX10_feed 7 (.int) rm_s_X10_feedX D G b0 f [.ref u0, .int u1, .int u2, .int u3, .int u4, .int u5] (fun r f1 => iv r (-1) 200 ∧ TI G 9 τ f1 ∧ Fr [11, 13, 11001] τ f f1 ∧ (((ln.toInt + (nb u1 + nb u2 + nb u3 + nb u4 + nb u5) ≤ 200) → r.toInt = ln.toInt + (nb u1 + nb u2 + nb u3 + nb u4 + nb u5)) ∧ (¬ (ln.toInt + (nb u1 + nb u2 + nb u3 + nb u4 + nb u5) ≤ 200) → r.toInt = -1)) ∧ (∃ ln1 : Int32, atp f1 ta (fd 0 (.int ln1)) ∧ iv ln1 0 200 ∧ ((ln.toInt + (nb u1 + nb u2 + nb u3 + nb u4 + nb u5) ≤ 200) → ln1.toInt = ln.toInt + (nb u1 + nb u2 + nb u3 + nb u4 + nb u5)) ∧ (¬ (ln.toInt + (nb u1 + nb u2 + nb u3 + nb u4 + nb u5) ≤ 200) → ln1.toInt = ln.toInt)) ∧ (∃ rt1 : Nat → Int32, atp f1 tq (eqc (.inl (G 1, 200, .inl rt1))) ∧ (∀ B : Nat → Int, (∀ k : Nat, (k : Int) < ln.toInt → (rt k).toInt = B k) → ∀ k : Nat, ((ln.toInt + (nb u1 + nb u2 + nb u3 + nb u4 + nb u5) ≤ 200) → (k : Int) < ln.toInt + (nb u1 + nb u2 + nb u3 + nb u4 + nb u5) → (rt1 k).toInt = (a4 (a4 (a4 (a4 (a4 (ln.toInt, B) u1) u2) u3) u4) u5).2 k) ∧ (¬ (ln.toInt + (nb u1 + nb u2 + nb u3 + nb u4 + nb u5) ≤ 200) → rt1 k = rt k))) ∧ FX [ta, tq] f f1) := by
  refine met2 (own := RX10) (by decide) rfl (Nat.le_of_ble_eq_true rfl) ?_
  intro p e s m args below meth c ls Q hQ C hr hini hl h
  have hl : lv_has ls 7 [(0, .ref u0), (1, .int u1), (2, .int u2), (3, .int u3), (4, .int u4), (5, .int u5)] := hl
  obtain ⟨hx, hb, hml, hown, hts, hE0, hlk⟩ := id C
  have o := Fr.rf [11, 13, 11001] τ f
  have hfx := FX.rf [ta, tq] f
  have hn1 := nb_iv u1
  have hn2 := nb_iv u2
  have hn3 := nb_iv u3
  have hn4 := nb_iv u4
  have hn5 := nb_iv u5
  refine lv_iload_n hx hb dX10_feed_0 rfl (lv_at hl 1 rfl) ?_
  refine k_i (r_S C h hl (As := [.int u1]) (rest := []) (s_X7_filledX l D G b0 τ f t u1 hu1) mk_X7_filled w_414 w_415 w_416 ⟨Nat.le_of_ble_eq_true rfl, Nat.le_of_ble_eq_true rfl⟩ rfl (Nat.le_of_ble_eq_true rfl) ⟨Nat.le_of_ble_eq_true rfl, Nat.le_of_ble_eq_true rfl⟩ rfl dX10_feed_1) h (fun r1 f2 H locs p3 h => ?_)
  obtain ⟨ir1, tf2, ogf2, x0r1⟩ := p3
  have egf2 := Fr.nil2 ogf2
  subst egf2
  refine lv_iload_n hx hb dX10_feed_4 rfl (lv_at hl 2 rfl) ?_
  refine k_i (r_S C h hl (As := [.int u2]) (rest := [.int r1]) (s_X7_filledX l D G b0 τ f t u2 hu2) mk_X7_filled w_414 w_415 w_416 ⟨Nat.le_of_ble_eq_true rfl, Nat.le_of_ble_eq_true rfl⟩ rfl (Nat.le_of_ble_eq_true rfl) ⟨Nat.le_of_ble_eq_true rfl, Nat.le_of_ble_eq_true rfl⟩ rfl dX10_feed_5) h (fun r4 f5 H locs p6 h => ?_)
  obtain ⟨ir4, tf5, ogf5, x0r4⟩ := p6
  have egf5 := Fr.nil2 ogf5
  subst egf5
  refine i_add hx hb dX10_feed_8 ir1 ir4 (lo := 0) (hi := 8) (by decide) (fun z7 ez7 mz7 iz7 => ?_)
  refine lv_iload_n hx hb dX10_feed_9 rfl (lv_at hl 3 rfl) ?_
  refine k_i (r_S C h hl (As := [.int u3]) (rest := [.int z7]) (s_X7_filledX l D G b0 τ f t u3 hu3) mk_X7_filled w_414 w_415 w_416 ⟨Nat.le_of_ble_eq_true rfl, Nat.le_of_ble_eq_true rfl⟩ rfl (Nat.le_of_ble_eq_true rfl) ⟨Nat.le_of_ble_eq_true rfl, Nat.le_of_ble_eq_true rfl⟩ rfl dX10_feed_10) h (fun r8 f9 H locs p10 h => ?_)
  obtain ⟨ir8, tf9, ogf9, x0r8⟩ := p10
  have egf9 := Fr.nil2 ogf9
  subst egf9
  refine i_add hx hb dX10_feed_13 iz7 ir8 (lo := 0) (hi := 12) (by decide) (fun z11 ez11 mz11 iz11 => ?_)
  refine lv_iload hx hb dX10_feed_14 (lv_at hl 4 rfl) ?_
  refine k_i (r_S C h hl (As := [.int u4]) (rest := [.int z11]) (s_X7_filledX l D G b0 τ f t u4 hu4) mk_X7_filled w_414 w_415 w_416 ⟨Nat.le_of_ble_eq_true rfl, Nat.le_of_ble_eq_true rfl⟩ rfl (Nat.le_of_ble_eq_true rfl) ⟨Nat.le_of_ble_eq_true rfl, Nat.le_of_ble_eq_true rfl⟩ rfl dX10_feed_16) h (fun r12 f13 H locs p14 h => ?_)
  obtain ⟨ir12, tf13, ogf13, x0r12⟩ := p14
  have egf13 := Fr.nil2 ogf13
  subst egf13
  refine i_add hx hb dX10_feed_19 iz11 ir12 (lo := 0) (hi := 16) (by decide) (fun z15 ez15 mz15 iz15 => ?_)
  refine lv_iload hx hb dX10_feed_20 (lv_at hl 5 rfl) ?_
  refine k_i (r_S C h hl (As := [.int u5]) (rest := [.int z15]) (s_X7_filledX l D G b0 τ f t u5 hu5) mk_X7_filled w_414 w_415 w_416 ⟨Nat.le_of_ble_eq_true rfl, Nat.le_of_ble_eq_true rfl⟩ rfl (Nat.le_of_ble_eq_true rfl) ⟨Nat.le_of_ble_eq_true rfl, Nat.le_of_ble_eq_true rfl⟩ rfl dX10_feed_22) h (fun r16 f17 H locs p18 h => ?_)
  obtain ⟨ir16, tf17, ogf17, x0r16⟩ := p18
  have egf17 := Fr.nil2 ogf17
  subst egf17
  refine i_add hx hb dX10_feed_25 iz15 ir16 (lo := 0) (hi := 20) (by decide) (fun z19 ez19 mz19 iz19 => ?_)
  refine lv_istore (lv' := [(6, .int z19), (0, .ref u0), (1, .int u1), (2, .int u2), (3, .int u3), (4, .int u4), (5, .int u5)]) hx hb dX10_feed_26 hl (by decide) rfl (fun ls hl => ?_)
  refine lv_aload_n hx hb dX10_feed_28 rfl (lv_at hl 1 rfl) ?_
  refine t_getfd C h t hu0 (by decide) wf_10 (v := .ref ta) k_u0_0 fl_X10_12 dX10_feed_29 ?_
  refine t_getfd C h t hta (by decide) wf_11 (v := .int ln) k_ta_0 fl_X10_79 dX10_feed_32 ?_
  refine lv_iload hx hb dX10_feed_35 (lv_at hl 0 rfl) ?_
  refine i_add hx hb dX10_feed_37 hln iz19 (lo := 0) (hi := 220) (by decide) (fun z20 ez20 mz20 iz20 => ?_)
  refine lv_sipush (v := 200) hx hb dX10_feed_38 (by decide) ?_
  refine lv_icmp_le (tgt := 46) hx hb dX10_feed_41 (by decide) (fun c21 => ?_) (fun c21 => ?_)
  · have c22 : z20.toInt ≤ 200 := Int32.le_iff_toInt_le.mp c21
    have i23 : iv z20 0 200 := iv_El c22 iz20 (iv_k (x := 200) (k := 200) rfl) (by decide)
    refine lv_aload_n hx hb dX10_feed_46 rfl (lv_at hl 1 rfl) ?_
    refine t_getfd C h t hu0 (by decide) wf_10 (v := .ref ta) k_u0_0 fl_X10_12 dX10_feed_47 ?_
    refine lv_iload_n hx hb dX10_feed_50 rfl (lv_at hl 2 rfl) ?_
    obtain ⟨_, r26⟩ := t_rec t hta (by decide) wf_11
    refine k_v (r_V C h hl (As := [.int u1]) (rest := []) (s_X7_appendX l D G b0 τ f t ta hta u1 hu1 ln hln k_ta_0 tq htq k_ta_1 rt hRtq (by omega)) r26 (Cn := RX7) (T := TX7) (N := 7) rfl rfl mk_X7_append w_417 w_418 w_419 w_420 ⟨Nat.le_of_ble_eq_true rfl, Nat.le_of_ble_eq_true rfl⟩ rfl (Nat.le_of_ble_eq_true rfl) ⟨Nat.le_of_ble_eq_true rfl, Nat.le_of_ble_eq_true rfl⟩ rfl dX10_feed_51) h (fun f28 H locs p29 h => ?_)
    obtain ⟨tf28, ogf28, ⟨ln1_f28, kpu0_0f28, ipu0_0f28, rpu0_0f28⟩, ⟨rt1_f28, kRtqf28, pRtqf28⟩, fxf28⟩ := p29
    have of28 : Fr [11, 13, 11001] τ f f28 := Fr.tr o ogf28 (by decide) (by decide)
    have k30 := atp.fr k_u0_0 ogf28 hu0 (by decide)
    have k31 := atp.fk k_ta_1 ogf28 hta (by decide) (by decide)
    have k32 := FX.tr hfx fxf28 (by simp)
    refine lv_aload_n hx hb dX10_feed_54 rfl (lv_at hl 1 rfl) ?_
    refine t_getfd C h tf28 hu0 (by decide) wf_10 (v := .ref ta) k30 fl_X10_12 dX10_feed_55 ?_
    refine lv_iload_n hx hb dX10_feed_58 rfl (lv_at hl 3 rfl) ?_
    obtain ⟨_, r33⟩ := t_rec tf28 hta (by decide) wf_11
    refine k_v (r_V C h hl (As := [.int u2]) (rest := []) (s_X7_appendX l D G b0 τ f28 tf28 ta hta u2 hu2 ln1_f28 ipu0_0f28 kpu0_0f28 tq htq k31 rt1_f28 kRtqf28 (by omega)) r33 (Cn := RX7) (T := TX7) (N := 7) rfl rfl mk_X7_append w_417 w_418 w_419 w_420 ⟨Nat.le_of_ble_eq_true rfl, Nat.le_of_ble_eq_true rfl⟩ rfl (Nat.le_of_ble_eq_true rfl) ⟨Nat.le_of_ble_eq_true rfl, Nat.le_of_ble_eq_true rfl⟩ rfl dX10_feed_59) h (fun f35 H locs p36 h => ?_)
    obtain ⟨tf35, ogf35, ⟨ln1_f35, kpu0_0f35, ipu0_0f35, rpu0_0f35⟩, ⟨rt1_f35, kRtqf35, pRtqf35⟩, fxf35⟩ := p36
    have of35 : Fr [11, 13, 11001] τ f f35 := Fr.tr of28 ogf35 (by decide) (by decide)
    have k37 := atp.fr k30 ogf35 hu0 (by decide)
    have k38 := atp.fk k31 ogf35 hta (by decide) (by decide)
    have k39 := FX.tr k32 fxf35 (by simp)
    refine lv_aload_n hx hb dX10_feed_62 rfl (lv_at hl 1 rfl) ?_
    refine t_getfd C h tf35 hu0 (by decide) wf_10 (v := .ref ta) k37 fl_X10_12 dX10_feed_63 ?_
    refine lv_iload_n hx hb dX10_feed_66 rfl (lv_at hl 4 rfl) ?_
    obtain ⟨_, r40⟩ := t_rec tf35 hta (by decide) wf_11
    refine k_v (r_V C h hl (As := [.int u3]) (rest := []) (s_X7_appendX l D G b0 τ f35 tf35 ta hta u3 hu3 ln1_f35 ipu0_0f35 kpu0_0f35 tq htq k38 rt1_f35 kRtqf35 (by omega)) r40 (Cn := RX7) (T := TX7) (N := 7) rfl rfl mk_X7_append w_417 w_418 w_419 w_420 ⟨Nat.le_of_ble_eq_true rfl, Nat.le_of_ble_eq_true rfl⟩ rfl (Nat.le_of_ble_eq_true rfl) ⟨Nat.le_of_ble_eq_true rfl, Nat.le_of_ble_eq_true rfl⟩ rfl dX10_feed_67) h (fun f42 H locs p43 h => ?_)
    obtain ⟨tf42, ogf42, ⟨ln1_f42, kpu0_0f42, ipu0_0f42, rpu0_0f42⟩, ⟨rt1_f42, kRtqf42, pRtqf42⟩, fxf42⟩ := p43
    have of42 : Fr [11, 13, 11001] τ f f42 := Fr.tr of35 ogf42 (by decide) (by decide)
    have k44 := atp.fr k37 ogf42 hu0 (by decide)
    have k45 := atp.fk k38 ogf42 hta (by decide) (by decide)
    have k46 := FX.tr k39 fxf42 (by simp)
    refine lv_aload_n hx hb dX10_feed_70 rfl (lv_at hl 1 rfl) ?_
    refine t_getfd C h tf42 hu0 (by decide) wf_10 (v := .ref ta) k44 fl_X10_12 dX10_feed_71 ?_
    refine lv_iload hx hb dX10_feed_74 (lv_at hl 5 rfl) ?_
    obtain ⟨_, r47⟩ := t_rec tf42 hta (by decide) wf_11
    refine k_v (r_V C h hl (As := [.int u4]) (rest := []) (s_X7_appendX l D G b0 τ f42 tf42 ta hta u4 hu4 ln1_f42 ipu0_0f42 kpu0_0f42 tq htq k45 rt1_f42 kRtqf42 (by omega)) r47 (Cn := RX7) (T := TX7) (N := 7) rfl rfl mk_X7_append w_417 w_418 w_419 w_420 ⟨Nat.le_of_ble_eq_true rfl, Nat.le_of_ble_eq_true rfl⟩ rfl (Nat.le_of_ble_eq_true rfl) ⟨Nat.le_of_ble_eq_true rfl, Nat.le_of_ble_eq_true rfl⟩ rfl dX10_feed_76) h (fun f49 H locs p50 h => ?_)
    obtain ⟨tf49, ogf49, ⟨ln1_f49, kpu0_0f49, ipu0_0f49, rpu0_0f49⟩, ⟨rt1_f49, kRtqf49, pRtqf49⟩, fxf49⟩ := p50
    have of49 : Fr [11, 13, 11001] τ f f49 := Fr.tr of42 ogf49 (by decide) (by decide)
    have k51 := atp.fr k44 ogf49 hu0 (by decide)
    have k52 := atp.fk k45 ogf49 hta (by decide) (by decide)
    have k53 := FX.tr k46 fxf49 (by simp)
    refine lv_aload_n hx hb dX10_feed_79 rfl (lv_at hl 1 rfl) ?_
    refine t_getfd C h tf49 hu0 (by decide) wf_10 (v := .ref ta) k51 fl_X10_12 dX10_feed_80 ?_
    refine lv_iload hx hb dX10_feed_83 (lv_at hl 6 rfl) ?_
    obtain ⟨_, r54⟩ := t_rec tf49 hta (by decide) wf_11
    refine k_v (r_V C h hl (As := [.int u5]) (rest := []) (s_X7_appendX l D G b0 τ f49 tf49 ta hta u5 hu5 ln1_f49 ipu0_0f49 kpu0_0f49 tq htq k52 rt1_f49 kRtqf49 (by omega)) r54 (Cn := RX7) (T := TX7) (N := 7) rfl rfl mk_X7_append w_417 w_418 w_419 w_420 ⟨Nat.le_of_ble_eq_true rfl, Nat.le_of_ble_eq_true rfl⟩ rfl (Nat.le_of_ble_eq_true rfl) ⟨Nat.le_of_ble_eq_true rfl, Nat.le_of_ble_eq_true rfl⟩ rfl dX10_feed_85) h (fun f56 H locs p57 h => ?_)
    obtain ⟨tf56, ogf56, ⟨ln1_f56, kpu0_0f56, ipu0_0f56, rpu0_0f56⟩, ⟨rt1_f56, kRtqf56, pRtqf56⟩, fxf56⟩ := p57
    have of56 : Fr [11, 13, 11001] τ f f56 := Fr.tr of49 ogf56 (by decide) (by decide)
    have k58 := atp.fr k51 ogf56 hu0 (by decide)
    have k59 := atp.fk k52 ogf56 hta (by decide) (by decide)
    have k60 := FX.tr k53 fxf56 (by simp)
    refine lv_aload_n hx hb dX10_feed_88 rfl (lv_at hl 1 rfl) ?_
    refine t_getfd C h tf56 hu0 (by decide) wf_10 (v := .ref ta) k58 fl_X10_12 dX10_feed_89 ?_
    refine t_getfd C h tf56 hta (by decide) wf_11 (v := .int ln1_f56) kpu0_0f56 fl_X10_79 dX10_feed_92 ?_
    exact u_iret C h hr hQ (⟨(iv_w ipu0_0f56 (by decide)), tf56, of56, (by omega), ⟨ln1_f56, kpu0_0f56, ipu0_0f56, (by omega)⟩, ⟨rt1_f56, kRtqf56, (fun B hB k => by
        refine ⟨fun z_ hk => ?_, fun z_ => absurd z_ (by omega)⟩
        have h1 := pRtqf28 B hB
        have h2 := pRtqf35 (a4 (ln.toInt, B) u1).2 (fun k_ hk_ => h1 k_ (by omega))
        rw [a4_p (ln.toInt, B) u1 (by show _ = ln.toInt + _; omega)] at h2
        have h3 := pRtqf42 (a4 (a4 (ln.toInt, B) u1) u2).2 (fun k_ hk_ => h2 k_ (by omega))
        rw [a4_p (a4 (ln.toInt, B) u1) u2 (by rw [a4_1]; show _ = ln.toInt + nb u1 + nb u2; omega)] at h3
        have h4 := pRtqf49 (a4 (a4 (a4 (ln.toInt, B) u1) u2) u3).2 (fun k_ hk_ => h3 k_ (by omega))
        rw [a4_p (a4 (a4 (ln.toInt, B) u1) u2) u3 (by rw [a4_1, a4_1]; show _ = ln.toInt + nb u1 + nb u2 + nb u3; omega)] at h4
        have h5 := pRtqf56 (a4 (a4 (a4 (a4 (ln.toInt, B) u1) u2) u3) u4).2 (fun k_ hk_ => h4 k_ (by omega))
        rw [a4_p (a4 (a4 (a4 (ln.toInt, B) u1) u2) u3) u4 (by rw [a4_1, a4_1, a4_1]; show _ = ln.toInt + nb u1 + nb u2 + nb u3 + nb u4; omega)] at h5
        exact h5 k (by omega))⟩, k60⟩) (Nat.le_of_ble_eq_true rfl) (Nat.le_of_ble_eq_true rfl) dX10_feed_95
  · have c24 : 200 < z20.toInt := Int32.lt_iff_toInt_lt.mp (iv_nle c21)
    have i25 : iv z20 201 220 := iv_Lr c24 (iv_k (x := 200) (k := 200) rfl) iz20 (by decide)
    refine lv_iconst (v := -1) hx hb dX10_feed_44 (by decide) ?_
    exact u_iret C h hr hQ (⟨⟨by decide, by decide⟩, t, o, (by have n_ : (-1 : Int32).toInt = -1 := rfl; omega), ⟨ln, k_ta_0, hln, (by omega)⟩, ⟨rt, hRtq, (fun B hB k => ⟨fun z_ => absurd z_ (by omega), fun _ => rfl⟩)⟩, hfx⟩) (Nat.le_of_ble_eq_true rfl) (Nat.le_of_ble_eq_true rfl) dX10_feed_45
